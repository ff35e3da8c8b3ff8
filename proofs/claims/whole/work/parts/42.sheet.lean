section SHEET
variable {d : Nat} {iv : mI} {jv : mJ} {Q : Option Value → mH → Prop} {G : Nat → Nat} {C : Nat → Int32} {n : Nat}
def isSh (x : Int32) : Prop := 0 ≤ x.toInt ∧ x.toInt ≤ (3 : Nat)
theorem sp_m_isSheet (x : Int32) : XM (d + 2) Ym_isSheet [.int x] iv jv Q = Q (some (.int (b01 (((0 : Nat) : Int) ≤ x.toInt ∧ x.toInt ≤ ((3 : Nat) : Int))))) (mk iv jv) := by
  simp (disch := first | assumption | omega) only [e_m_isSheet, x_m_isSheet_0, x_m_isSheet_1, x_m_isSheet_2, x_m_isSheet_3, x_m_isSheet_6, x_m_isSheet_9, sp_isInI, XK_s, b01_ok, true_and]
theorem sp_isSheetN {s : Nat} (hs : s < 2147483648) : XM (d + 2) Ym_isSheet [.int (nI s)] iv jv Q = Q (some (.int (b01 (s ≤ 3)))) (mk iv jv) := by
  rw [sp_m_isSheet (nI s), b01_congr (e := s ≤ 3)]
  rw [nI_toI hs]; omega
def tOk (G : Nat → Nat) (x y z : Int32) : Prop := isSh x ∧ ((0 ≤ y.toInt ∧ y.toInt ≤ 1) ∨ ((10 ≤ y.toInt ∧ y.toInt < 10 + (G 29 : Int)) ∧ isLv z))
theorem sp_m_tells_bad {x y z : Int32} (hG : ∀ k, k < 101 → jv 119 k = lN (G k)) (hB : IB G) (h : ¬ tOk G x y z) : XM (d + 6) Ym_tells [.ref 118, .int x, .int y, .int z] iv jv Q = Q (some (.int (-2))) (mk iv jv) := by
  have hb := hB.1
  have h29 := hG 29 (by decide)
  have e1 : 10 ≤ y.toInt → (y - nI 10).toInt = y.toInt - 10 := fun h => sub_I y (by decide) (by omega)
  unfold tOk isSh isLv at h
  by_cases p1 : ((0 : Nat) : Int) ≤ x.toInt ∧ x.toInt ≤ ((3 : Nat) : Int) <;> by_cases p2 : ((10 : Nat) : Int) ≤ y.toInt ∧ y.toInt ≤ ((17 : Nat) : Int) <;> by_cases p3 : 0 ≤ (y - nI 10).toInt ∧ (y - nI 10).toInt < (G 29 : Int) <;> by_cases p4 : 0 ≤ z.toInt ∧ z.toInt ≤ ((8 : Nat) : Int) <;> by_cases p5 : ((0 : Nat) : Int) ≤ y.toInt ∧ y.toInt ≤ ((1 : Nat) : Int) <;>
  first
  | (exfalso; omega)
  | (simp (disch := first | assumption | omega) only [e_m_tells, x_m_tells_0, x_m_tells_1, x_m_tells_2, x_m_tells_5, x_m_tells_8, x_m_tells_11, x_m_tells_14, x_m_tells_15, x_m_tells_16, x_m_tells_18, x_m_tells_19, x_m_tells_22, x_m_tells_25, x_m_tells_26, x_m_tells_29, x_m_tells_32, x_m_tells_33, x_m_tells_36, x_m_tells_37, x_m_tells_39, x_m_tells_40, x_m_tells_43, x_m_tells_46, x_m_tells_47, x_m_tells_48, x_m_tells_49, x_m_tells_50, x_m_tells_53, x_m_tells_56, x_m_tells_58, x_m_tells_61, x_m_tells_63, x_m_tells_64, x_m_tells_65, x_m_tells_68, x_m_tells_69, x_m_tells_70, x_m_tells_71, x_m_tells_74, x_m_tells_76, x_m_tells_77, x_m_tells_78, x_m_tells_79, x_m_tells_82, x_m_tells_85, x_m_tells_87, x_m_tells_88, x_m_tells_89, x_m_tells_90, x_m_tells_93, x_m_tells_94, x_m_tells_95, x_m_tells_98, x_m_tells_99, x_m_tells_102, x_m_tells_103, x_m_tells_104, x_m_tells_107, x_m_tells_110, x_m_tells_111, x_m_tells_112, x_m_tells_115, x_m_tells_116, x_m_tells_117, x_m_tells_120, x_m_tells_123, x_m_tells_124, x_m_tells_125, x_m_tells_126, x_m_tells_128, x_m_tells_129, x_m_tells_130, x_m_tells_133, sp_isInI, sp_m_isSheet, sp_m_isLevel, XK_s, b01_eq0, p1, p2, p3, p4, p5, sp_m_isItem, not_false_eq_true, not_true_eq_false, if_true, if_false, n10, and_self])
def shOk (G : Nat → Nat) (C : Nat → Int32) (n : Nat) : Bool := decide (n ≤ G 29) && aa C n
theorem sp_areAnswers {s : Nat} (hG : ∀ k, k < 101 → jv 119 k = lN (G k)) (hB : IB G) (hs : s < 4) (hZ : iv 124 s = nI n) (hn : n ≤ 40) (hC : ∀ i, i < n → iv 125 (40 * s + i) = C i) : XM (d + 2) Ym_areAnswers [.ref 118, .int (nI s)] iv jv Q = Q (some (.int (b01 (shOk G C n = true)))) (mk iv jv) := sp_m_areAnswers hG hB hs hZ hn hC
def vT (G : Nat → Nat) (C : Nat → Int32) (n : Nat) (S : Int32) (r : Nat) : Int32 := if S = -1 then -11 else if shOk G C n = true then nI r else -2
theorem tells_ok (hB : IB G) (h : shOk G C n = true) : n ≤ 8 := by
  unfold shOk at h
  simp at h
  have := hB.1
  omega
theorem uu12 (iv : mI) (x y : Int32) : upi (upi iv 118 12 x) 118 14 y 118 12 = x := by unfold upi; simp
theorem FI_2 (iv : mI) (x y : Int32) : FI iv (upi (upi iv 118 12 x) 118 14 y) := FI_u (FI_u (fun _ _ _ => rfl) (by decide)) (by decide)
theorem sp_m_tells0 {s : Nat} {S z : Int32} (hG : ∀ k, k < 101 → jv 119 k = lN (G k)) (hB : IB G) (hs : s < 4) (hS : iv 123 s = S) (hZ : iv 124 s = nI n) (hn : n ≤ 40) (hC : ∀ i, i < n → iv 125 (40 * s + i) = C i) (hQ : ∀ iv', FI iv iv' → Q (some (.int (vT G C n S (bst G C (-1) 0 (-1) n)))) (mk iv' jv)) : XM (d + 6) Ym_tells [.ref 118, .int (nI s), .int (nI 0), .int z] iv jv Q := by
  have hs3 : s ≤ 3 := by omega
  unfold vT at hQ
  by_cases p : S = -1
  · simp only [p, if_true] at hQ
    simp (disch := first | assumption | omega) only [e_m_tells, x_m_tells_0, x_m_tells_1, x_m_tells_2, x_m_tells_5, x_m_tells_8, x_m_tells_11, x_m_tells_14, x_m_tells_15, x_m_tells_16, x_m_tells_18, x_m_tells_19, x_m_tells_22, x_m_tells_25, x_m_tells_26, x_m_tells_29, x_m_tells_32, x_m_tells_33, x_m_tells_36, x_m_tells_37, x_m_tells_39, x_m_tells_40, x_m_tells_43, x_m_tells_46, x_m_tells_47, x_m_tells_48, x_m_tells_49, x_m_tells_50, x_m_tells_53, x_m_tells_56, x_m_tells_58, x_m_tells_61, x_m_tells_63, x_m_tells_64, x_m_tells_65, x_m_tells_68, x_m_tells_69, x_m_tells_70, x_m_tells_71, x_m_tells_74, x_m_tells_76, x_m_tells_77, x_m_tells_78, x_m_tells_79, x_m_tells_82, x_m_tells_85, x_m_tells_87, x_m_tells_88, x_m_tells_89, x_m_tells_90, x_m_tells_93, x_m_tells_94, x_m_tells_95, x_m_tells_98, x_m_tells_99, x_m_tells_102, x_m_tells_103, x_m_tells_104, x_m_tells_107, x_m_tells_110, x_m_tells_111, x_m_tells_112, x_m_tells_115, x_m_tells_116, x_m_tells_117, x_m_tells_120, x_m_tells_123, x_m_tells_124, x_m_tells_125, x_m_tells_126, x_m_tells_128, x_m_tells_129, x_m_tells_130, x_m_tells_133, q_i2l, sp_isInN, sp_isSheetN, XK_s, b01_eq0, hs3, Nat.reduceLeDiff, Nat.zero_le, and_self, and_false, false_and, not_true_eq_false, not_false_eq_true, if_true, if_false, q_in, q_tn, true_and, hS, p]
    exact hQ _ (fun _ _ _ => rfl)
  · by_cases p2 : shOk G C n = true
    · have hn8 := tells_ok hB p2
      have hF := FI_2 iv (-1) (-1)
      have z2 := (hF 124 s (by omega)).trans hZ
      have c2 : ∀ i', i' < n → upi (upi iv 118 12 (-1)) 118 14 (-1) 125 (40 * s + i') = C i' := fun i' hi' => (hF 125 _ (by omega)).trans (hC i' hi')
      have hbs := fun Q : Option Value → mH → Prop => sp_m_best (d := d + 1) (Q := Q) (x := -1) (k := 0) hG hB hs z2 hn8 c2 (uu12 _ _ _) (Or.inl rfl) (upi_at _ _ _ _)
      simp only [p, p2, if_true, if_false] at hQ
      simp (disch := first | assumption | omega) only [e_m_tells, x_m_tells_0, x_m_tells_1, x_m_tells_2, x_m_tells_5, x_m_tells_8, x_m_tells_11, x_m_tells_14, x_m_tells_15, x_m_tells_16, x_m_tells_18, x_m_tells_19, x_m_tells_22, x_m_tells_25, x_m_tells_26, x_m_tells_29, x_m_tells_32, x_m_tells_33, x_m_tells_36, x_m_tells_37, x_m_tells_39, x_m_tells_40, x_m_tells_43, x_m_tells_46, x_m_tells_47, x_m_tells_48, x_m_tells_49, x_m_tells_50, x_m_tells_53, x_m_tells_56, x_m_tells_58, x_m_tells_61, x_m_tells_63, x_m_tells_64, x_m_tells_65, x_m_tells_68, x_m_tells_69, x_m_tells_70, x_m_tells_71, x_m_tells_74, x_m_tells_76, x_m_tells_77, x_m_tells_78, x_m_tells_79, x_m_tells_82, x_m_tells_85, x_m_tells_87, x_m_tells_88, x_m_tells_89, x_m_tells_90, x_m_tells_93, x_m_tells_94, x_m_tells_95, x_m_tells_98, x_m_tells_99, x_m_tells_102, x_m_tells_103, x_m_tells_104, x_m_tells_107, x_m_tells_110, x_m_tells_111, x_m_tells_112, x_m_tells_115, x_m_tells_116, x_m_tells_117, x_m_tells_120, x_m_tells_123, x_m_tells_124, x_m_tells_125, x_m_tells_126, x_m_tells_128, x_m_tells_129, x_m_tells_130, x_m_tells_133, q_i2l, sp_isInN, sp_isSheetN, XK_s, b01_eq0, hs3, Nat.reduceLeDiff, Nat.zero_le, and_self, and_false, false_and, not_true_eq_false, not_false_eq_true, if_true, if_false, q_in, q_tn, true_and, hS, p, sp_areAnswers hG hB hs hZ hn hC, p2, hbs]
      exact hQ _ hF
    · simp only [p, p2, if_true, if_false] at hQ
      simp (disch := first | assumption | omega) only [e_m_tells, x_m_tells_0, x_m_tells_1, x_m_tells_2, x_m_tells_5, x_m_tells_8, x_m_tells_11, x_m_tells_14, x_m_tells_15, x_m_tells_16, x_m_tells_18, x_m_tells_19, x_m_tells_22, x_m_tells_25, x_m_tells_26, x_m_tells_29, x_m_tells_32, x_m_tells_33, x_m_tells_36, x_m_tells_37, x_m_tells_39, x_m_tells_40, x_m_tells_43, x_m_tells_46, x_m_tells_47, x_m_tells_48, x_m_tells_49, x_m_tells_50, x_m_tells_53, x_m_tells_56, x_m_tells_58, x_m_tells_61, x_m_tells_63, x_m_tells_64, x_m_tells_65, x_m_tells_68, x_m_tells_69, x_m_tells_70, x_m_tells_71, x_m_tells_74, x_m_tells_76, x_m_tells_77, x_m_tells_78, x_m_tells_79, x_m_tells_82, x_m_tells_85, x_m_tells_87, x_m_tells_88, x_m_tells_89, x_m_tells_90, x_m_tells_93, x_m_tells_94, x_m_tells_95, x_m_tells_98, x_m_tells_99, x_m_tells_102, x_m_tells_103, x_m_tells_104, x_m_tells_107, x_m_tells_110, x_m_tells_111, x_m_tells_112, x_m_tells_115, x_m_tells_116, x_m_tells_117, x_m_tells_120, x_m_tells_123, x_m_tells_124, x_m_tells_125, x_m_tells_126, x_m_tells_128, x_m_tells_129, x_m_tells_130, x_m_tells_133, q_i2l, sp_isInN, sp_isSheetN, XK_s, b01_eq0, hs3, Nat.reduceLeDiff, Nat.zero_le, and_self, and_false, false_and, not_true_eq_false, not_false_eq_true, if_true, if_false, q_in, q_tn, true_and, hS, p, sp_areAnswers hG hB hs hZ hn hC, p2]
      exact hQ _ (fun _ _ _ => rfl)
theorem sp_m_tells1 {s : Nat} {S z : Int32} (hG : ∀ k, k < 101 → jv 119 k = lN (G k)) (hB : IB G) (hs : s < 4) (hS : iv 123 s = S) (hZ : iv 124 s = nI n) (hn : n ≤ 40) (hC : ∀ i, i < n → iv 125 (40 * s + i) = C i) (hQ : ∀ iv', FI iv iv' → Q (some (.int (vT G C n S (tu G C (bst G C (-1) 0 (-1) n) n n)))) (mk iv' jv)) : XM (d + 6) Ym_tells [.ref 118, .int (nI s), .int (nI 1), .int z] iv jv Q := by
  have hs3 : s ≤ 3 := by omega
  unfold vT at hQ
  by_cases p : S = -1
  · simp only [p, if_true] at hQ
    simp (disch := first | assumption | omega) only [e_m_tells, x_m_tells_0, x_m_tells_1, x_m_tells_2, x_m_tells_5, x_m_tells_8, x_m_tells_11, x_m_tells_14, x_m_tells_15, x_m_tells_16, x_m_tells_18, x_m_tells_19, x_m_tells_22, x_m_tells_25, x_m_tells_26, x_m_tells_29, x_m_tells_32, x_m_tells_33, x_m_tells_36, x_m_tells_37, x_m_tells_39, x_m_tells_40, x_m_tells_43, x_m_tells_46, x_m_tells_47, x_m_tells_48, x_m_tells_49, x_m_tells_50, x_m_tells_53, x_m_tells_56, x_m_tells_58, x_m_tells_61, x_m_tells_63, x_m_tells_64, x_m_tells_65, x_m_tells_68, x_m_tells_69, x_m_tells_70, x_m_tells_71, x_m_tells_74, x_m_tells_76, x_m_tells_77, x_m_tells_78, x_m_tells_79, x_m_tells_82, x_m_tells_85, x_m_tells_87, x_m_tells_88, x_m_tells_89, x_m_tells_90, x_m_tells_93, x_m_tells_94, x_m_tells_95, x_m_tells_98, x_m_tells_99, x_m_tells_102, x_m_tells_103, x_m_tells_104, x_m_tells_107, x_m_tells_110, x_m_tells_111, x_m_tells_112, x_m_tells_115, x_m_tells_116, x_m_tells_117, x_m_tells_120, x_m_tells_123, x_m_tells_124, x_m_tells_125, x_m_tells_126, x_m_tells_128, x_m_tells_129, x_m_tells_130, x_m_tells_133, q_i2l, sp_isInN, sp_isSheetN, XK_s, b01_eq0, hs3, Nat.reduceLeDiff, Nat.zero_le, and_self, and_false, false_and, not_true_eq_false, not_false_eq_true, if_true, if_false, q_in, q_tn, true_and, hS, p]
    exact hQ _ (fun _ _ _ => rfl)
  · by_cases p2 : shOk G C n = true
    · have hn8 := tells_ok hB p2
      have hF := FI_2 iv (-1) (-1)
      have z2 := (hF 124 s (by omega)).trans hZ
      have c2 : ∀ i', i' < n → upi (upi iv 118 12 (-1)) 118 14 (-1) 125 (40 * s + i') = C i' := fun i' hi' => (hF 125 _ (by omega)).trans (hC i' hi')
      have hbs := fun Q : Option Value → mH → Prop => sp_m_best (d := d) (Q := Q) (x := -1) (k := 0) hG hB hs z2 hn8 c2 (uu12 _ _ _) (Or.inl rfl) (upi_at _ _ _ _)
      simp only [p, p2, if_true, if_false] at hQ
      simp (disch := first | assumption | omega) only [e_m_tells, x_m_tells_0, x_m_tells_1, x_m_tells_2, x_m_tells_5, x_m_tells_8, x_m_tells_11, x_m_tells_14, x_m_tells_15, x_m_tells_16, x_m_tells_18, x_m_tells_19, x_m_tells_22, x_m_tells_25, x_m_tells_26, x_m_tells_29, x_m_tells_32, x_m_tells_33, x_m_tells_36, x_m_tells_37, x_m_tells_39, x_m_tells_40, x_m_tells_43, x_m_tells_46, x_m_tells_47, x_m_tells_48, x_m_tells_49, x_m_tells_50, x_m_tells_53, x_m_tells_56, x_m_tells_58, x_m_tells_61, x_m_tells_63, x_m_tells_64, x_m_tells_65, x_m_tells_68, x_m_tells_69, x_m_tells_70, x_m_tells_71, x_m_tells_74, x_m_tells_76, x_m_tells_77, x_m_tells_78, x_m_tells_79, x_m_tells_82, x_m_tells_85, x_m_tells_87, x_m_tells_88, x_m_tells_89, x_m_tells_90, x_m_tells_93, x_m_tells_94, x_m_tells_95, x_m_tells_98, x_m_tells_99, x_m_tells_102, x_m_tells_103, x_m_tells_104, x_m_tells_107, x_m_tells_110, x_m_tells_111, x_m_tells_112, x_m_tells_115, x_m_tells_116, x_m_tells_117, x_m_tells_120, x_m_tells_123, x_m_tells_124, x_m_tells_125, x_m_tells_126, x_m_tells_128, x_m_tells_129, x_m_tells_130, x_m_tells_133, q_i2l, sp_isInN, sp_isSheetN, XK_s, b01_eq0, hs3, Nat.reduceLeDiff, Nat.zero_le, and_self, and_false, false_and, not_true_eq_false, not_false_eq_true, if_true, if_false, q_in, q_tn, true_and, hS, p, sp_areAnswers hG hB hs hZ hn hC, p2, n10, Nat.le_refl, q_eq, Nat.one_ne_zero, e_m_turners, x_m_turners_0, x_m_turners_1, x_m_turners_2, x_m_turners_5, x_m_turners_6, x_m_turners_7, x_m_turners_8, x_m_turners_9, x_m_turners_13, x_m_turners_14, x_m_turners_17, x_m_turners_18, x_m_turners_19, x_m_turners_22, x_m_turners_23, x_m_turners_25, x_m_turners_28, x_m_turners_29, x_m_turners_30, x_m_turners_31, x_m_turners_34, x_m_turners_35, x_m_turners_38, x_m_turners_39, x_m_turners_41, x_m_turners_42, x_m_turners_45, x_m_turners_46, x_m_turners_47, x_m_turners_48, x_m_turners_51, x_m_turners_54, x_m_turners_55, hbs]
      refine lp_m_turners (iv := iv) (n := n) hG hB hs hZ hn8 hC (bst_le _ _ _ _ _ _) (fun iv' hF' => ?_) n 0 (by omega) _ hF (uu12 _ _ _)
      simp only [XK_s, x_m_tells_0, x_m_tells_1, x_m_tells_2, x_m_tells_5, x_m_tells_8, x_m_tells_11, x_m_tells_14, x_m_tells_15, x_m_tells_16, x_m_tells_18, x_m_tells_19, x_m_tells_22, x_m_tells_25, x_m_tells_26, x_m_tells_29, x_m_tells_32, x_m_tells_33, x_m_tells_36, x_m_tells_37, x_m_tells_39, x_m_tells_40, x_m_tells_43, x_m_tells_46, x_m_tells_47, x_m_tells_48, x_m_tells_49, x_m_tells_50, x_m_tells_53, x_m_tells_56, x_m_tells_58, x_m_tells_61, x_m_tells_63, x_m_tells_64, x_m_tells_65, x_m_tells_68, x_m_tells_69, x_m_tells_70, x_m_tells_71, x_m_tells_74, x_m_tells_76, x_m_tells_77, x_m_tells_78, x_m_tells_79, x_m_tells_82, x_m_tells_85, x_m_tells_87, x_m_tells_88, x_m_tells_89, x_m_tells_90, x_m_tells_93, x_m_tells_94, x_m_tells_95, x_m_tells_98, x_m_tells_99, x_m_tells_102, x_m_tells_103, x_m_tells_104, x_m_tells_107, x_m_tells_110, x_m_tells_111, x_m_tells_112, x_m_tells_115, x_m_tells_116, x_m_tells_117, x_m_tells_120, x_m_tells_123, x_m_tells_124, x_m_tells_125, x_m_tells_126, x_m_tells_128, x_m_tells_129, x_m_tells_130, x_m_tells_133]
      exact hQ _ hF'
    · simp only [p, p2, if_true, if_false] at hQ
      simp (disch := first | assumption | omega) only [e_m_tells, x_m_tells_0, x_m_tells_1, x_m_tells_2, x_m_tells_5, x_m_tells_8, x_m_tells_11, x_m_tells_14, x_m_tells_15, x_m_tells_16, x_m_tells_18, x_m_tells_19, x_m_tells_22, x_m_tells_25, x_m_tells_26, x_m_tells_29, x_m_tells_32, x_m_tells_33, x_m_tells_36, x_m_tells_37, x_m_tells_39, x_m_tells_40, x_m_tells_43, x_m_tells_46, x_m_tells_47, x_m_tells_48, x_m_tells_49, x_m_tells_50, x_m_tells_53, x_m_tells_56, x_m_tells_58, x_m_tells_61, x_m_tells_63, x_m_tells_64, x_m_tells_65, x_m_tells_68, x_m_tells_69, x_m_tells_70, x_m_tells_71, x_m_tells_74, x_m_tells_76, x_m_tells_77, x_m_tells_78, x_m_tells_79, x_m_tells_82, x_m_tells_85, x_m_tells_87, x_m_tells_88, x_m_tells_89, x_m_tells_90, x_m_tells_93, x_m_tells_94, x_m_tells_95, x_m_tells_98, x_m_tells_99, x_m_tells_102, x_m_tells_103, x_m_tells_104, x_m_tells_107, x_m_tells_110, x_m_tells_111, x_m_tells_112, x_m_tells_115, x_m_tells_116, x_m_tells_117, x_m_tells_120, x_m_tells_123, x_m_tells_124, x_m_tells_125, x_m_tells_126, x_m_tells_128, x_m_tells_129, x_m_tells_130, x_m_tells_133, q_i2l, sp_isInN, sp_isSheetN, XK_s, b01_eq0, hs3, Nat.reduceLeDiff, Nat.zero_le, and_self, and_false, false_and, not_true_eq_false, not_false_eq_true, if_true, if_false, q_in, q_tn, true_and, hS, p, sp_areAnswers hG hB hs hZ hn hC, p2]
      exact hQ _ (fun _ _ _ => rfl)
theorem sp_m_tells10 {s i l : Nat} {S : Int32} (hG : ∀ k, k < 101 → jv 119 k = lN (G k)) (hB : IB G) (hs : s < 4) (hi : i < G 29) (hl : l < 9) (hS : iv 123 s = S) (hZ : iv 124 s = nI n) (hn : n ≤ 40) (hC : ∀ i, i < n → iv 125 (40 * s + i) = C i) (hQ : ∀ iv', FI iv iv' → Q (some (.int (vT G C n S (kn G C i l n 6)))) (mk iv' jv)) : XM (d + 6) Ym_tells [.ref 118, .int (nI s), .int (nI (10 + i)), .int (nI l)] iv jv Q := by
  have hs3 : s ≤ 3 := by omega
  have hb := hB.1
  have h29 := hG 29 (by decide)
  have a1 : ¬ (10 + i ≤ 1) := by omega
  have a2 : 10 ≤ 10 + i := by omega
  have a3 : 10 + i ≤ 17 := by omega
  have a4 : ¬ (10 + i = 1) := by omega
  have a6 : ¬ (10 + i = 0) := by omega
  have a8 : 10 + i - 10 = i := by omega
  have hl8 : l ≤ 8 := by omega
  unfold vT at hQ
  by_cases p : S = -1
  · simp only [p, if_true] at hQ
    simp (disch := first | assumption | omega) only [e_m_tells, x_m_tells_0, x_m_tells_1, x_m_tells_2, x_m_tells_5, x_m_tells_8, x_m_tells_11, x_m_tells_14, x_m_tells_15, x_m_tells_16, x_m_tells_18, x_m_tells_19, x_m_tells_22, x_m_tells_25, x_m_tells_26, x_m_tells_29, x_m_tells_32, x_m_tells_33, x_m_tells_36, x_m_tells_37, x_m_tells_39, x_m_tells_40, x_m_tells_43, x_m_tells_46, x_m_tells_47, x_m_tells_48, x_m_tells_49, x_m_tells_50, x_m_tells_53, x_m_tells_56, x_m_tells_58, x_m_tells_61, x_m_tells_63, x_m_tells_64, x_m_tells_65, x_m_tells_68, x_m_tells_69, x_m_tells_70, x_m_tells_71, x_m_tells_74, x_m_tells_76, x_m_tells_77, x_m_tells_78, x_m_tells_79, x_m_tells_82, x_m_tells_85, x_m_tells_87, x_m_tells_88, x_m_tells_89, x_m_tells_90, x_m_tells_93, x_m_tells_94, x_m_tells_95, x_m_tells_98, x_m_tells_99, x_m_tells_102, x_m_tells_103, x_m_tells_104, x_m_tells_107, x_m_tells_110, x_m_tells_111, x_m_tells_112, x_m_tells_115, x_m_tells_116, x_m_tells_117, x_m_tells_120, x_m_tells_123, x_m_tells_124, x_m_tells_125, x_m_tells_126, x_m_tells_128, x_m_tells_129, x_m_tells_130, x_m_tells_133, q_i2l, sp_isInN, sp_isSheetN, XK_s, b01_eq0, hs3, a1, a2, a3, a4, a6, a8, hi, hl8, q_sub, sp_isItemN, sp_isLevelN, n10, and_true, Nat.reduceLeDiff, Nat.zero_le, and_self, and_false, false_and, not_true_eq_false, not_false_eq_true, if_true, if_false, q_in, q_tn, true_and, hS, p]
    exact hQ _ (fun _ _ _ => rfl)
  · by_cases p2 : shOk G C n = true
    · have hn8 := tells_ok hB p2
      have hF := FI_2 iv (-1) (-1)
      have z2 := (hF 124 s (by omega)).trans hZ
      have c2 : ∀ i', i' < n → upi (upi iv 118 12 (-1)) 118 14 (-1) 125 (40 * s + i') = C i' := fun i' hi' => (hF 125 _ (by omega)).trans (hC i' hi')
      simp only [p, p2, if_true, if_false] at hQ
      simp (disch := first | assumption | omega) only [e_m_tells, x_m_tells_0, x_m_tells_1, x_m_tells_2, x_m_tells_5, x_m_tells_8, x_m_tells_11, x_m_tells_14, x_m_tells_15, x_m_tells_16, x_m_tells_18, x_m_tells_19, x_m_tells_22, x_m_tells_25, x_m_tells_26, x_m_tells_29, x_m_tells_32, x_m_tells_33, x_m_tells_36, x_m_tells_37, x_m_tells_39, x_m_tells_40, x_m_tells_43, x_m_tells_46, x_m_tells_47, x_m_tells_48, x_m_tells_49, x_m_tells_50, x_m_tells_53, x_m_tells_56, x_m_tells_58, x_m_tells_61, x_m_tells_63, x_m_tells_64, x_m_tells_65, x_m_tells_68, x_m_tells_69, x_m_tells_70, x_m_tells_71, x_m_tells_74, x_m_tells_76, x_m_tells_77, x_m_tells_78, x_m_tells_79, x_m_tells_82, x_m_tells_85, x_m_tells_87, x_m_tells_88, x_m_tells_89, x_m_tells_90, x_m_tells_93, x_m_tells_94, x_m_tells_95, x_m_tells_98, x_m_tells_99, x_m_tells_102, x_m_tells_103, x_m_tells_104, x_m_tells_107, x_m_tells_110, x_m_tells_111, x_m_tells_112, x_m_tells_115, x_m_tells_116, x_m_tells_117, x_m_tells_120, x_m_tells_123, x_m_tells_124, x_m_tells_125, x_m_tells_126, x_m_tells_128, x_m_tells_129, x_m_tells_130, x_m_tells_133, q_i2l, sp_isInN, sp_isSheetN, XK_s, b01_eq0, hs3, a1, a2, a3, a4, a6, a8, hi, hl8, q_sub, sp_isItemN, sp_isLevelN, n10, and_true, Nat.reduceLeDiff, Nat.zero_le, and_self, and_false, false_and, not_true_eq_false, not_false_eq_true, if_true, if_false, q_in, q_tn, true_and, hS, p, sp_areAnswers hG hB hs hZ hn hC, p2, n10, Nat.le_refl, q_eq, Nat.one_ne_zero, e_m_kinds, x_m_kinds_0, x_m_kinds_1, x_m_kinds_3, x_m_kinds_4, x_m_kinds_5, x_m_kinds_8, x_m_kinds_9, x_m_kinds_13, x_m_kinds_15, x_m_kinds_18, x_m_kinds_19, x_m_kinds_21, x_m_kinds_24, x_m_kinds_26, x_m_kinds_27, x_m_kinds_28, x_m_kinds_31, x_m_kinds_32, x_m_kinds_35, x_m_kinds_36, x_m_kinds_38, x_m_kinds_39, x_m_kinds_42, x_m_kinds_43, x_m_kinds_44, x_m_kinds_46, x_m_kinds_49, x_m_kinds_52, x_m_kinds_54]
      refine lp_m_kinds (iv := iv) (n := n) (i := i) (lev := l) (by omega) hG hB hs hZ hn8 hC hl8 (fun iv' hF' => ?_) 6 0 (by omega) _ (FI_u hF (by decide)) (upi_at _ _ _ _) (by unfold upi; simp)
      simp only [XK_s, x_m_tells_0, x_m_tells_1, x_m_tells_2, x_m_tells_5, x_m_tells_8, x_m_tells_11, x_m_tells_14, x_m_tells_15, x_m_tells_16, x_m_tells_18, x_m_tells_19, x_m_tells_22, x_m_tells_25, x_m_tells_26, x_m_tells_29, x_m_tells_32, x_m_tells_33, x_m_tells_36, x_m_tells_37, x_m_tells_39, x_m_tells_40, x_m_tells_43, x_m_tells_46, x_m_tells_47, x_m_tells_48, x_m_tells_49, x_m_tells_50, x_m_tells_53, x_m_tells_56, x_m_tells_58, x_m_tells_61, x_m_tells_63, x_m_tells_64, x_m_tells_65, x_m_tells_68, x_m_tells_69, x_m_tells_70, x_m_tells_71, x_m_tells_74, x_m_tells_76, x_m_tells_77, x_m_tells_78, x_m_tells_79, x_m_tells_82, x_m_tells_85, x_m_tells_87, x_m_tells_88, x_m_tells_89, x_m_tells_90, x_m_tells_93, x_m_tells_94, x_m_tells_95, x_m_tells_98, x_m_tells_99, x_m_tells_102, x_m_tells_103, x_m_tells_104, x_m_tells_107, x_m_tells_110, x_m_tells_111, x_m_tells_112, x_m_tells_115, x_m_tells_116, x_m_tells_117, x_m_tells_120, x_m_tells_123, x_m_tells_124, x_m_tells_125, x_m_tells_126, x_m_tells_128, x_m_tells_129, x_m_tells_130, x_m_tells_133]
      exact hQ _ hF'
    · simp only [p, p2, if_true, if_false] at hQ
      simp (disch := first | assumption | omega) only [e_m_tells, x_m_tells_0, x_m_tells_1, x_m_tells_2, x_m_tells_5, x_m_tells_8, x_m_tells_11, x_m_tells_14, x_m_tells_15, x_m_tells_16, x_m_tells_18, x_m_tells_19, x_m_tells_22, x_m_tells_25, x_m_tells_26, x_m_tells_29, x_m_tells_32, x_m_tells_33, x_m_tells_36, x_m_tells_37, x_m_tells_39, x_m_tells_40, x_m_tells_43, x_m_tells_46, x_m_tells_47, x_m_tells_48, x_m_tells_49, x_m_tells_50, x_m_tells_53, x_m_tells_56, x_m_tells_58, x_m_tells_61, x_m_tells_63, x_m_tells_64, x_m_tells_65, x_m_tells_68, x_m_tells_69, x_m_tells_70, x_m_tells_71, x_m_tells_74, x_m_tells_76, x_m_tells_77, x_m_tells_78, x_m_tells_79, x_m_tells_82, x_m_tells_85, x_m_tells_87, x_m_tells_88, x_m_tells_89, x_m_tells_90, x_m_tells_93, x_m_tells_94, x_m_tells_95, x_m_tells_98, x_m_tells_99, x_m_tells_102, x_m_tells_103, x_m_tells_104, x_m_tells_107, x_m_tells_110, x_m_tells_111, x_m_tells_112, x_m_tells_115, x_m_tells_116, x_m_tells_117, x_m_tells_120, x_m_tells_123, x_m_tells_124, x_m_tells_125, x_m_tells_126, x_m_tells_128, x_m_tells_129, x_m_tells_130, x_m_tells_133, q_i2l, sp_isInN, sp_isSheetN, XK_s, b01_eq0, hs3, a1, a2, a3, a4, a6, a8, hi, hl8, q_sub, sp_isItemN, sp_isLevelN, n10, and_true, Nat.reduceLeDiff, Nat.zero_le, and_self, and_false, false_and, not_true_eq_false, not_false_eq_true, if_true, if_false, q_in, q_tn, true_and, hS, p, sp_areAnswers hG hB hs hZ hn hC, p2]
      exact hQ _ (fun _ _ _ => rfl)
/-! film -/
def FS (s : Nat) (iv iv' : mI) : Prop := ∀ q k, ¬ (q = 123 ∧ k = s) → ¬ (q = 124 ∧ k = s) → ¬ (q = 125 ∧ 40 * s ≤ k ∧ k < 40 * s + 40) → iv' q k = iv q k
theorem FS_3 {s : Nat} {iv iv1 : mI} {z : Int32} (h : FS s iv iv1) : FS s iv (upi iv1 123 s z) := fun q j e1 e2 e3 => by
  unfold upi; rw [if_neg (fun w => e1 w)]; exact h q j e1 e2 e3
theorem FS_4 {s : Nat} {iv iv1 : mI} {z : Int32} (h : FS s iv iv1) : FS s iv (upi iv1 124 s z) := fun q j e1 e2 e3 => by
  unfold upi; rw [if_neg (fun w => e2 w)]; exact h q j e1 e2 e3
theorem FS_5 {s k : Nat} {iv iv1 : mI} {z : Int32} (h : FS s iv iv1) (hk : k < 40) : FS s iv (upi iv1 125 (40 * s + k) z) := fun q j e1 e2 e3 => by
  unfold upi; rw [if_neg (fun w => e3 ⟨w.1, by omega, by omega⟩)]; exact h q j e1 e2 e3
theorem FS_r (s : Nat) (iv : mI) : FS s iv iv := fun _ _ _ _ _ => rfl
theorem upi_ne {iv : mI} {q k : Nat} {x : Int32} {a j : Nat} (h : ¬ (a = q ∧ j = k)) : upi iv q k x a j = iv a j := by unfold upi; rw [if_neg h]
theorem tsum_le (hB : IB G) {i : Nat} (hi : i < 8) : ∀ n, sm (tel G i) n ≤ 600 * n
  | 0 => Nat.le_refl _
  | n + 1 => by
    have := tsum_le hB hi n
    have := tel_le hB hi n
    rw [sm_s]; omega
theorem lp_m_film {s i : Nat} (hs : s < 4) (hi : i < 8) (hG : ∀ k, k < 101 → jv 119 k = lN (G k)) (hB : IB G) (hQ : ∀ iv', FS s iv iv' → iv' 123 s = nI 1 → iv' 124 s = nI 9 → (∀ l, l < 9 → iv' 125 (40 * s + l) = nI (tel G i l)) → Q (some (.int (nI (sm (tel G i) 9)))) (mk iv' jv)) : ∀ m l, l + m = 9 → ∀ iv1, FS s iv iv1 → iv1 123 s = nI 1 → iv1 124 s = nI 9 → (∀ l', l' < l → iv1 125 (40 * s + l') = nI (tel G i l')) → XT (d + 4) Ym_film 38 [.ref 118, .int (nI s), .int (nI i), .int (nI (sm (tel G i) l)), .int (nI l)] [] iv1 jv Q := by
  intro m
  induction m with
  | zero =>
    intro l hl iv1 hF h3 h4 h5
    obtain rfl : l = 9 := by omega
    rw [x_m_film_38]
    simp (disch := first | assumption | omega) only [x_m_film_0, x_m_film_1, x_m_film_4, x_m_film_7, x_m_film_8, x_m_film_9, x_m_film_12, x_m_film_15, x_m_film_17, x_m_film_18, x_m_film_19, x_m_film_22, x_m_film_23, x_m_film_24, x_m_film_25, x_m_film_26, x_m_film_29, x_m_film_30, x_m_film_32, x_m_film_33, x_m_film_34, x_m_film_35, x_m_film_36, x_m_film_40, x_m_film_42, x_m_film_45, x_m_film_46, x_m_film_49, x_m_film_51, x_m_film_52, x_m_film_53, x_m_film_55, x_m_film_56, x_m_film_57, x_m_film_58, x_m_film_60, x_m_film_63, x_m_film_64, x_m_film_65, x_m_film_66, x_m_film_67, x_m_film_69, x_m_film_72, x_m_film_73, x_m_film_74, x_m_film_77, x_m_film_80, x_m_film_81, q_le, Nat.le_refl, if_true]
    exact hQ _ hF h3 h4 h5
  | succ m ih =>
    intro l hl iv1 hF h3 h4 h5
    have h9 : ¬ 9 ≤ l := by omega
    rw [x_m_film_38]
    simp (disch := first | assumption | omega) only [x_m_film_0, x_m_film_1, x_m_film_4, x_m_film_7, x_m_film_8, x_m_film_9, x_m_film_12, x_m_film_15, x_m_film_17, x_m_film_18, x_m_film_19, x_m_film_22, x_m_film_23, x_m_film_24, x_m_film_25, x_m_film_26, x_m_film_29, x_m_film_30, x_m_film_32, x_m_film_33, x_m_film_34, x_m_film_35, x_m_film_36, x_m_film_40, x_m_film_42, x_m_film_45, x_m_film_46, x_m_film_49, x_m_film_51, x_m_film_52, x_m_film_53, x_m_film_55, x_m_film_56, x_m_film_57, x_m_film_58, x_m_film_60, x_m_film_63, x_m_film_64, x_m_film_65, x_m_film_66, x_m_film_67, x_m_film_69, x_m_film_72, x_m_film_73, x_m_film_74, x_m_film_77, x_m_film_80, x_m_film_81, q_le, h9, if_false, q_mul, q_add, sp_m_tellsOf hG hB, XK_s, q_in, q_tn, true_and]
    refine ih (l + 1) (by omega) _ (FS_5 hF (by omega)) ?_ ?_ (fun l' hl' => ?_)
    · rw [upi_ne (by omega)]; exact h3
    · rw [upi_ne (by omega)]; exact h4
    · by_cases e : l' = l
      · subst e; rw [upi_at]
      · rw [upi_ne (by omega)]; exact h5 l' (by omega)
def isF (G : Nat → Nat) (x y : Int32) : Prop := isSh x ∧ isIt G y
theorem sp_m_film_bad {x y : Int32} (hG : ∀ k, k < 101 → jv 119 k = lN (G k)) (hB : IB G) (h : ¬ isF G x y) : XM (d + 5) Ym_film [.ref 118, .int x, .int y] iv jv Q = Q (some (.int (-2))) (mk iv jv) := by
  have hb := hB.1
  have h29 := hG 29 (by decide)
  unfold isF isSh isIt at h
  by_cases p1 : ((0 : Nat) : Int) ≤ x.toInt ∧ x.toInt ≤ ((3 : Nat) : Int) <;> by_cases p2 : 0 ≤ y.toInt ∧ y.toInt < (G 29 : Int) <;>
  first
  | (exfalso; omega)
  | (simp (disch := first | assumption | omega) only [e_m_film, x_m_film_0, x_m_film_1, x_m_film_4, x_m_film_7, x_m_film_8, x_m_film_9, x_m_film_12, x_m_film_15, x_m_film_17, x_m_film_18, x_m_film_19, x_m_film_22, x_m_film_23, x_m_film_24, x_m_film_25, x_m_film_26, x_m_film_29, x_m_film_30, x_m_film_32, x_m_film_33, x_m_film_34, x_m_film_35, x_m_film_36, x_m_film_40, x_m_film_42, x_m_film_45, x_m_film_46, x_m_film_49, x_m_film_51, x_m_film_52, x_m_film_53, x_m_film_55, x_m_film_56, x_m_film_57, x_m_film_58, x_m_film_60, x_m_film_63, x_m_film_64, x_m_film_65, x_m_film_66, x_m_film_67, x_m_film_69, x_m_film_72, x_m_film_73, x_m_film_74, x_m_film_77, x_m_film_80, x_m_film_81, sp_m_isSheet, sp_m_isItem, XK_s, b01_eq0, p1, p2, not_false_eq_true, not_true_eq_false, if_true, if_false, and_self])
theorem sp_m_film {s i : Nat} (hs : s < 4) (hi : i < G 29) (hG : ∀ k, k < 101 → jv 119 k = lN (G k)) (hB : IB G) (hQ : ∀ iv', FS s iv iv' → iv' 123 s = nI 1 → iv' 124 s = nI 9 → (∀ l, l < 9 → iv' 125 (40 * s + l) = nI (tel G i l)) → Q (some (.int (nI (sm (tel G i) 9)))) (mk iv' jv)) : XM (d + 5) Ym_film [.ref 118, .int (nI s), .int (nI i)] iv jv Q := by
  have hb := hB.1
  have h29 := hG 29 (by decide)
  have hs3 : s ≤ 3 := by omega
  simp (disch := first | assumption | omega) only [e_m_film, x_m_film_0, x_m_film_1, x_m_film_4, x_m_film_7, x_m_film_8, x_m_film_9, x_m_film_12, x_m_film_15, x_m_film_17, x_m_film_18, x_m_film_19, x_m_film_22, x_m_film_23, x_m_film_24, x_m_film_25, x_m_film_26, x_m_film_29, x_m_film_30, x_m_film_32, x_m_film_33, x_m_film_34, x_m_film_35, x_m_film_36, x_m_film_40, x_m_film_42, x_m_film_45, x_m_film_46, x_m_film_49, x_m_film_51, x_m_film_52, x_m_film_53, x_m_film_55, x_m_film_56, x_m_film_57, x_m_film_58, x_m_film_60, x_m_film_63, x_m_film_64, x_m_film_65, x_m_film_66, x_m_film_67, x_m_film_69, x_m_film_72, x_m_film_73, x_m_film_74, x_m_film_77, x_m_film_80, x_m_film_81, sp_isSheetN, sp_isItemN, XK_s, b01_eq0, hs3, hi, not_true_eq_false, if_false, q_in, q_tn, true_and]
  exact lp_m_film hs (by omega) hG hB hQ 9 0 (by omega) _ (FS_4 (FS_3 (FS_r s iv))) (by rw [upi_ne (by omega), upi_at]) (upi_at _ _ _ _) (fun l hl => absurd hl (by omega))
/-! sheet -/
theorem lp_m_sheet {s : Nat} {x y : Int32} (hs : s < 4) (hQ : ∀ iv', (∀ q k, ¬ (q = 125 ∧ 40 * s ≤ k ∧ k < 40 * s + 40) → iv' q k = iv q k) → (∀ k, k < 40 → iv' 125 (40 * s + k) = nI 0) → Q (some (.int (nI 1))) (mk iv' jv)) : ∀ m k, k + m = 40 → ∀ iv1, (∀ q k, ¬ (q = 125 ∧ 40 * s ≤ k ∧ k < 40 * s + 40) → iv1 q k = iv q k) → (∀ k', k' < k → iv1 125 (40 * s + k') = nI 0) → XT d Ym_sheet 71 [.ref 118, .int (nI s), .int x, .int y, .int (nI k)] [] iv1 jv Q := by
  intro m
  induction m with
  | zero =>
    intro k hk iv1 hF h5
    obtain rfl : k = 40 := by omega
    rw [x_m_sheet_71]
    simp (disch := first | assumption | omega) only [x_m_sheet_0, x_m_sheet_1, x_m_sheet_4, x_m_sheet_7, x_m_sheet_8, x_m_sheet_9, x_m_sheet_12, x_m_sheet_13, x_m_sheet_16, x_m_sheet_19, x_m_sheet_20, x_m_sheet_21, x_m_sheet_24, x_m_sheet_25, x_m_sheet_27, x_m_sheet_30, x_m_sheet_32, x_m_sheet_33, x_m_sheet_34, x_m_sheet_35, x_m_sheet_38, x_m_sheet_39, x_m_sheet_42, x_m_sheet_44, x_m_sheet_45, x_m_sheet_46, x_m_sheet_49, x_m_sheet_50, x_m_sheet_51, x_m_sheet_52, x_m_sheet_53, x_m_sheet_56, x_m_sheet_57, x_m_sheet_58, x_m_sheet_59, x_m_sheet_62, x_m_sheet_63, x_m_sheet_66, x_m_sheet_67, x_m_sheet_68, x_m_sheet_69, x_m_sheet_73, x_m_sheet_75, x_m_sheet_78, x_m_sheet_79, x_m_sheet_82, x_m_sheet_84, x_m_sheet_85, x_m_sheet_86, x_m_sheet_88, x_m_sheet_89, x_m_sheet_90, x_m_sheet_91, x_m_sheet_94, x_m_sheet_97, x_m_sheet_98, q_le, Nat.le_refl, if_true]
    exact hQ _ hF h5
  | succ m ih =>
    intro k hk iv1 hF h5
    have h9 : ¬ 40 ≤ k := by omega
    rw [x_m_sheet_71]
    simp (disch := first | assumption | omega) only [x_m_sheet_0, x_m_sheet_1, x_m_sheet_4, x_m_sheet_7, x_m_sheet_8, x_m_sheet_9, x_m_sheet_12, x_m_sheet_13, x_m_sheet_16, x_m_sheet_19, x_m_sheet_20, x_m_sheet_21, x_m_sheet_24, x_m_sheet_25, x_m_sheet_27, x_m_sheet_30, x_m_sheet_32, x_m_sheet_33, x_m_sheet_34, x_m_sheet_35, x_m_sheet_38, x_m_sheet_39, x_m_sheet_42, x_m_sheet_44, x_m_sheet_45, x_m_sheet_46, x_m_sheet_49, x_m_sheet_50, x_m_sheet_51, x_m_sheet_52, x_m_sheet_53, x_m_sheet_56, x_m_sheet_57, x_m_sheet_58, x_m_sheet_59, x_m_sheet_62, x_m_sheet_63, x_m_sheet_66, x_m_sheet_67, x_m_sheet_68, x_m_sheet_69, x_m_sheet_73, x_m_sheet_75, x_m_sheet_78, x_m_sheet_79, x_m_sheet_82, x_m_sheet_84, x_m_sheet_85, x_m_sheet_86, x_m_sheet_88, x_m_sheet_89, x_m_sheet_90, x_m_sheet_91, x_m_sheet_94, x_m_sheet_97, x_m_sheet_98, q_le, h9, if_false, q_mul, q_add, q_in, q_tn, true_and]
    refine ih (k + 1) (by omega) _ (fun q j e => ?_) (fun k' hk' => ?_)
    · rw [upi_ne (fun w => e ⟨w.1, by omega, by omega⟩)]; exact hF q j e
    · by_cases e : k' = k
      · subst e; rw [upi_at]
      · rw [upi_ne (by omega)]; exact h5 k' (by omega)
end SHEET
