section SHEET
variable {d : Nat} {iv : mI} {jv : mJ} {Q : Option Value → mH → Prop} {G : Nat → Nat} {C : Nat → Int32} {n : Nat}
def isSh (x : Int32) : Prop := 0 ≤ x.toInt ∧ x.toInt ≤ (3 : Nat)
theorem sp_m_isSheet (x : Int32) : XM (d + 2) Ym_isSheet [.int x] iv jv Q = Q (some (.int (b01 (((0 : Nat) : Int) ≤ x.toInt ∧ x.toInt ≤ ((3 : Nat) : Int))))) (mk iv jv) := by
  simp (disch := first | assumption | omega) only [e_m_isSheet, x_m_isSheet_0, x_m_isSheet_1, x_m_isSheet_2, x_m_isSheet_3, x_m_isSheet_6, x_m_isSheet_9, sp_isInI, XK_s, b01_ok, true_and]
theorem sp_isSheetN {s : Nat} (hs : s < 2147483648) : XM (d + 2) Ym_isSheet [.int (nI s)] iv jv Q = Q (some (.int (b01 (s ≤ 3)))) (mk iv jv) := by
  rw [sp_m_isSheet (nI s), b01_congr (e := s ≤ 3)]
  rw [nI_toI hs]; omega
def tOk (G : Nat → Nat) (x y z : Int32) : Prop := isSh x ∧ ((0 ≤ y.toInt ∧ y.toInt ≤ 1) ∨ ((10 ≤ y.toInt ∧ y.toInt < 10 + (G 29 : Int)) ∧ isLv z))
theorem sp_m_tells_bad {x y z : Int32} (hG : ∀ k, k < 101 → jv 119 k = lN (G k)) (hB : IB G) (h : ¬ tOk G x y z) : XM (d + 6) Ym_tells [.ref 118, .int x, .int y, .int z] iv jv Q = Q (some (.int (-2))) (mk iv jv) := by
  have hb := hB.1
  have h29 := hG 29 (by decide)
  have e1 : 10 ≤ y.toInt → (y - nI 10).toInt = y.toInt - 10 := fun h => sub_I y (by decide) (by omega)
  unfold tOk isSh isLv at h
  by_cases p1 : ((0 : Nat) : Int) ≤ x.toInt ∧ x.toInt ≤ ((3 : Nat) : Int) <;> by_cases p2 : ((10 : Nat) : Int) ≤ y.toInt ∧ y.toInt ≤ ((17 : Nat) : Int) <;> by_cases p3 : 0 ≤ (y - nI 10).toInt ∧ (y - nI 10).toInt < (G 29 : Int) <;> by_cases p4 : 0 ≤ z.toInt ∧ z.toInt ≤ ((8 : Nat) : Int) <;> by_cases p5 : ((0 : Nat) : Int) ≤ y.toInt ∧ y.toInt ≤ ((1 : Nat) : Int) <;>
  first
  | (exfalso; omega)
  | (simp (disch := first | assumption | omega) only [e_m_tells, x_m_tells_0, x_m_tells_1, x_m_tells_2, x_m_tells_5, x_m_tells_8, x_m_tells_11, x_m_tells_14, x_m_tells_15, x_m_tells_16, x_m_tells_18, x_m_tells_19, x_m_tells_22, x_m_tells_25, x_m_tells_26, x_m_tells_29, x_m_tells_32, x_m_tells_33, x_m_tells_36, x_m_tells_37, x_m_tells_39, x_m_tells_40, x_m_tells_43, x_m_tells_46, x_m_tells_47, x_m_tells_48, x_m_tells_49, x_m_tells_50, x_m_tells_53, x_m_tells_56, x_m_tells_58, x_m_tells_61, x_m_tells_63, x_m_tells_64, x_m_tells_65, x_m_tells_68, x_m_tells_69, x_m_tells_70, x_m_tells_71, x_m_tells_74, x_m_tells_76, x_m_tells_77, x_m_tells_78, x_m_tells_79, x_m_tells_82, x_m_tells_85, x_m_tells_87, x_m_tells_88, x_m_tells_89, x_m_tells_90, x_m_tells_93, x_m_tells_94, x_m_tells_95, x_m_tells_98, x_m_tells_99, x_m_tells_102, x_m_tells_103, x_m_tells_104, x_m_tells_107, x_m_tells_110, x_m_tells_111, x_m_tells_112, x_m_tells_115, x_m_tells_116, x_m_tells_117, x_m_tells_120, x_m_tells_123, x_m_tells_124, x_m_tells_125, x_m_tells_126, x_m_tells_128, x_m_tells_129, x_m_tells_130, x_m_tells_133, sp_isInI, sp_m_isSheet, sp_m_isLevel, XK_s, b01_eq0, p1, p2, p3, p4, p5, sp_m_isItem, not_false_eq_true, not_true_eq_false, if_true, if_false, n10, and_self])
def shOk (G : Nat → Nat) (C : Nat → Int32) (n : Nat) : Bool := decide (n ≤ G 29) && aa C n
theorem sp_areAnswers {s : Nat} (hG : ∀ k, k < 101 → jv 119 k = lN (G k)) (hB : IB G) (hs : s < 4) (hZ : iv 124 s = nI n) (hn : n ≤ 40) (hC : ∀ i, i < n → iv 125 (40 * s + i) = C i) : XM (d + 2) Ym_areAnswers [.ref 118, .int (nI s)] iv jv Q = Q (some (.int (b01 (shOk G C n = true)))) (mk iv jv) := sp_m_areAnswers hG hB hs hZ hn hC
def vT (G : Nat → Nat) (C : Nat → Int32) (n : Nat) (S : Int32) (r : Nat) : Int32 := if S = -1 then -11 else if shOk G C n = true then nI r else -2
theorem tells_ok (hB : IB G) (h : shOk G C n = true) : n ≤ 8 := by
  unfold shOk at h
  simp at h
  have := hB.1
  omega
theorem uu12 (iv : mI) (x y : Int32) : upi (upi iv 118 12 x) 118 14 y 118 12 = x := by unfold upi; simp
theorem FI_2 (iv : mI) (x y : Int32) : FI iv (upi (upi iv 118 12 x) 118 14 y) := FI_u (FI_u (fun _ _ _ => rfl) (by decide)) (by decide)
theorem sp_m_tells0 {s : Nat} {S z : Int32} (hG : ∀ k, k < 101 → jv 119 k = lN (G k)) (hB : IB G) (hs : s < 4) (hS : iv 123 s = S) (hZ : iv 124 s = nI n) (hn : n ≤ 40) (hC : ∀ i, i < n → iv 125 (40 * s + i) = C i) (hQ : ∀ iv', FI iv iv' → Q (some (.int (vT G C n S (bst G C (-1) 0 (-1) n)))) (mk iv' jv)) : XM (d + 6) Ym_tells [.ref 118, .int (nI s), .int (nI 0), .int z] iv jv Q := by
  have hs3 : s ≤ 3 := by omega
  unfold vT at hQ
  by_cases p : S = -1
  · simp only [p, if_true] at hQ
    simp (disch := first | assumption | omega) only [e_m_tells, x_m_tells_0, x_m_tells_1, x_m_tells_2, x_m_tells_5, x_m_tells_8, x_m_tells_11, x_m_tells_14, x_m_tells_15, x_m_tells_16, x_m_tells_18, x_m_tells_19, x_m_tells_22, x_m_tells_25, x_m_tells_26, x_m_tells_29, x_m_tells_32, x_m_tells_33, x_m_tells_36, x_m_tells_37, x_m_tells_39, x_m_tells_40, x_m_tells_43, x_m_tells_46, x_m_tells_47, x_m_tells_48, x_m_tells_49, x_m_tells_50, x_m_tells_53, x_m_tells_56, x_m_tells_58, x_m_tells_61, x_m_tells_63, x_m_tells_64, x_m_tells_65, x_m_tells_68, x_m_tells_69, x_m_tells_70, x_m_tells_71, x_m_tells_74, x_m_tells_76, x_m_tells_77, x_m_tells_78, x_m_tells_79, x_m_tells_82, x_m_tells_85, x_m_tells_87, x_m_tells_88, x_m_tells_89, x_m_tells_90, x_m_tells_93, x_m_tells_94, x_m_tells_95, x_m_tells_98, x_m_tells_99, x_m_tells_102, x_m_tells_103, x_m_tells_104, x_m_tells_107, x_m_tells_110, x_m_tells_111, x_m_tells_112, x_m_tells_115, x_m_tells_116, x_m_tells_117, x_m_tells_120, x_m_tells_123, x_m_tells_124, x_m_tells_125, x_m_tells_126, x_m_tells_128, x_m_tells_129, x_m_tells_130, x_m_tells_133, q_i2l, sp_isInN, sp_isSheetN, XK_s, b01_eq0, hs3, Nat.reduceLeDiff, Nat.zero_le, and_self, and_false, false_and, not_true_eq_false, not_false_eq_true, if_true, if_false, q_in, q_tn, true_and, hS, p]
    exact hQ _ (fun _ _ _ => rfl)
  · by_cases p2 : shOk G C n = true
    · have hn8 := tells_ok hB p2
      have hF := FI_2 iv (-1) (-1)
      have z2 := (hF 124 s (by omega)).trans hZ
      have c2 : ∀ i', i' < n → upi (upi iv 118 12 (-1)) 118 14 (-1) 125 (40 * s + i') = C i' := fun i' hi' => (hF 125 _ (by omega)).trans (hC i' hi')
      have hbs := fun Q : Option Value → mH → Prop => sp_m_best (d := d + 1) (Q := Q) (x := -1) (k := 0) hG hB hs z2 hn8 c2 (uu12 _ _ _) (Or.inl rfl) (upi_at _ _ _ _)
      simp only [p, p2, if_true, if_false] at hQ
      simp (disch := first | assumption | omega) only [e_m_tells, x_m_tells_0, x_m_tells_1, x_m_tells_2, x_m_tells_5, x_m_tells_8, x_m_tells_11, x_m_tells_14, x_m_tells_15, x_m_tells_16, x_m_tells_18, x_m_tells_19, x_m_tells_22, x_m_tells_25, x_m_tells_26, x_m_tells_29, x_m_tells_32, x_m_tells_33, x_m_tells_36, x_m_tells_37, x_m_tells_39, x_m_tells_40, x_m_tells_43, x_m_tells_46, x_m_tells_47, x_m_tells_48, x_m_tells_49, x_m_tells_50, x_m_tells_53, x_m_tells_56, x_m_tells_58, x_m_tells_61, x_m_tells_63, x_m_tells_64, x_m_tells_65, x_m_tells_68, x_m_tells_69, x_m_tells_70, x_m_tells_71, x_m_tells_74, x_m_tells_76, x_m_tells_77, x_m_tells_78, x_m_tells_79, x_m_tells_82, x_m_tells_85, x_m_tells_87, x_m_tells_88, x_m_tells_89, x_m_tells_90, x_m_tells_93, x_m_tells_94, x_m_tells_95, x_m_tells_98, x_m_tells_99, x_m_tells_102, x_m_tells_103, x_m_tells_104, x_m_tells_107, x_m_tells_110, x_m_tells_111, x_m_tells_112, x_m_tells_115, x_m_tells_116, x_m_tells_117, x_m_tells_120, x_m_tells_123, x_m_tells_124, x_m_tells_125, x_m_tells_126, x_m_tells_128, x_m_tells_129, x_m_tells_130, x_m_tells_133, q_i2l, sp_isInN, sp_isSheetN, XK_s, b01_eq0, hs3, Nat.reduceLeDiff, Nat.zero_le, and_self, and_false, false_and, not_true_eq_false, not_false_eq_true, if_true, if_false, q_in, q_tn, true_and, hS, p, sp_areAnswers hG hB hs hZ hn hC, p2, hbs]
      exact hQ _ hF
    · simp only [p, p2, if_true, if_false] at hQ
      simp (disch := first | assumption | omega) only [e_m_tells, x_m_tells_0, x_m_tells_1, x_m_tells_2, x_m_tells_5, x_m_tells_8, x_m_tells_11, x_m_tells_14, x_m_tells_15, x_m_tells_16, x_m_tells_18, x_m_tells_19, x_m_tells_22, x_m_tells_25, x_m_tells_26, x_m_tells_29, x_m_tells_32, x_m_tells_33, x_m_tells_36, x_m_tells_37, x_m_tells_39, x_m_tells_40, x_m_tells_43, x_m_tells_46, x_m_tells_47, x_m_tells_48, x_m_tells_49, x_m_tells_50, x_m_tells_53, x_m_tells_56, x_m_tells_58, x_m_tells_61, x_m_tells_63, x_m_tells_64, x_m_tells_65, x_m_tells_68, x_m_tells_69, x_m_tells_70, x_m_tells_71, x_m_tells_74, x_m_tells_76, x_m_tells_77, x_m_tells_78, x_m_tells_79, x_m_tells_82, x_m_tells_85, x_m_tells_87, x_m_tells_88, x_m_tells_89, x_m_tells_90, x_m_tells_93, x_m_tells_94, x_m_tells_95, x_m_tells_98, x_m_tells_99, x_m_tells_102, x_m_tells_103, x_m_tells_104, x_m_tells_107, x_m_tells_110, x_m_tells_111, x_m_tells_112, x_m_tells_115, x_m_tells_116, x_m_tells_117, x_m_tells_120, x_m_tells_123, x_m_tells_124, x_m_tells_125, x_m_tells_126, x_m_tells_128, x_m_tells_129, x_m_tells_130, x_m_tells_133, q_i2l, sp_isInN, sp_isSheetN, XK_s, b01_eq0, hs3, Nat.reduceLeDiff, Nat.zero_le, and_self, and_false, false_and, not_true_eq_false, not_false_eq_true, if_true, if_false, q_in, q_tn, true_and, hS, p, sp_areAnswers hG hB hs hZ hn hC, p2]
      exact hQ _ (fun _ _ _ => rfl)
end SHEET
