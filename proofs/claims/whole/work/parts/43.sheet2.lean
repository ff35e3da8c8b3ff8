section SHEET2
variable {d : Nat} {iv : mI} {jv : mJ} {Q : Option Value → mH → Prop} {G : Nat → Nat} {C : Nat → Int32} {n : Nat}
theorem t_lt (x : Int32) {k : Nat} (hk : k < 2147483648) : (x < nI k) = (x.toInt < (k : Int)) := by rw [Int32.lt_iff_toInt_lt, nI_toI hk]
theorem t_gt (x : Int32) {k : Nat} (hk : k < 2147483648) : (nI k < x) = ((k : Int) < x.toInt) := by rw [Int32.lt_iff_toInt_lt, nI_toI hk]
theorem t_le (x : Int32) {k : Nat} (hk : k < 2147483648) : (x ≤ nI k) = (x.toInt ≤ (k : Int)) := by rw [Int32.le_iff_toInt_le, nI_toI hk]
theorem t_ge (x : Int32) {k : Nat} (hk : k < 2147483648) : (nI k ≤ x) = ((k : Int) ≤ x.toInt) := by rw [Int32.le_iff_toInt_le, nI_toI hk]
theorem sp_isInM (x : Int32) : XM (d + 1) Ym_isIn [.long x.toInt64, .long (-1), .long (lN 1)] iv jv Q = Q (some (.int (b01 (-1 ≤ x.toInt ∧ x.toInt ≤ 1)))) (mk iv jv) := by
  rw [sp_m_isIn, b01_congr (e := -1 ≤ x.toInt ∧ x.toInt ≤ 1)]
  have : (-1 : Int64).toInt = -1 := by decide
  rw [Int64.le_iff_toInt_le, Int64.le_iff_toInt_le, toI64, lN_toI (by decide), this]
  omega
theorem m1_toI : (-1 : Int32).toInt = -1 := by decide
def shO (x o y : Int32) : Prop := isSh x ∧ (o = -1 ∨ ((o = nI 0 ∨ o = nI 1) ∧ y.toInt ≤ 40))
theorem o_cases (o : Int32) : (-1 ≤ o.toInt ∧ o.toInt ≤ 1) ↔ (o = -1 ∨ o = nI 0 ∨ o = nI 1) := by
  constructor
  · rintro ⟨h1, h2⟩
    have h : o.toInt = -1 ∨ o.toInt = 0 ∨ o.toInt = 1 := by omega
    rcases h with h | h | h
    · exact Or.inl (Int32.toInt_inj.mp (h.trans m1_toI.symm))
    · exact Or.inr (Or.inl (Int32.toInt_inj.mp (h.trans (nI_toI (k := 0) (by decide)).symm)))
    · exact Or.inr (Or.inr (Int32.toInt_inj.mp (h.trans (nI_toI (k := 1) (by decide)).symm)))
  · rintro (rfl | rfl | rfl) <;> decide
theorem sp_m_sheet_bad {x o y : Int32} (h : ¬ shO x o y) : XM (d + 3) Ym_sheet [.ref 118, .int x, .int o, .int y] iv jv Q = Q (some (.int (-2))) (mk iv jv) := by
  unfold shO isSh at h
  by_cases p1 : ((0 : Nat) : Int) ≤ x.toInt ∧ x.toInt ≤ ((3 : Nat) : Int)
  · by_cases p2 : -1 ≤ o.toInt ∧ o.toInt ≤ 1
    · have hc := (o_cases o).mp p2
      by_cases p3 : o = -1
      · exact absurd ⟨p1, Or.inl p3⟩ h
      · have p4 : ((40 : Nat) : Int) < y.toInt := by
          rcases Int.lt_or_le ((40 : Nat) : Int) y.toInt with e | e
          · exact e
          · exact absurd ⟨p1, Or.inr ⟨hc.resolve_left p3, e⟩⟩ h
        have p4' : ¬ y.toInt ≤ ((40 : Nat) : Int) := by omega
        simp (disch := first | assumption | omega) only [e_m_sheet, x_m_sheet_0, x_m_sheet_1, x_m_sheet_4, x_m_sheet_7, x_m_sheet_8, x_m_sheet_9, x_m_sheet_12, x_m_sheet_13, x_m_sheet_16, x_m_sheet_19, x_m_sheet_20, x_m_sheet_21, x_m_sheet_24, x_m_sheet_25, x_m_sheet_27, x_m_sheet_30, x_m_sheet_32, x_m_sheet_33, x_m_sheet_34, x_m_sheet_35, x_m_sheet_38, x_m_sheet_39, x_m_sheet_42, x_m_sheet_44, x_m_sheet_45, x_m_sheet_46, x_m_sheet_49, x_m_sheet_50, x_m_sheet_51, x_m_sheet_52, x_m_sheet_53, x_m_sheet_56, x_m_sheet_57, x_m_sheet_58, x_m_sheet_59, x_m_sheet_62, x_m_sheet_63, x_m_sheet_66, x_m_sheet_67, x_m_sheet_68, x_m_sheet_69, x_m_sheet_73, x_m_sheet_75, x_m_sheet_78, x_m_sheet_79, x_m_sheet_82, x_m_sheet_84, x_m_sheet_85, x_m_sheet_86, x_m_sheet_88, x_m_sheet_89, x_m_sheet_90, x_m_sheet_91, x_m_sheet_94, x_m_sheet_97, x_m_sheet_98, sp_m_isSheet, sp_isInM, XK_s, b01_eq0, eq_true p1, eq_true p2, eq_false p3, t_lt, t_gt, t_le, t_ge, p4, p4', not_true_eq_false, not_false_eq_true, if_true, if_false]
    · simp (disch := first | assumption | omega) only [e_m_sheet, x_m_sheet_0, x_m_sheet_1, x_m_sheet_4, x_m_sheet_7, x_m_sheet_8, x_m_sheet_9, x_m_sheet_12, x_m_sheet_13, x_m_sheet_16, x_m_sheet_19, x_m_sheet_20, x_m_sheet_21, x_m_sheet_24, x_m_sheet_25, x_m_sheet_27, x_m_sheet_30, x_m_sheet_32, x_m_sheet_33, x_m_sheet_34, x_m_sheet_35, x_m_sheet_38, x_m_sheet_39, x_m_sheet_42, x_m_sheet_44, x_m_sheet_45, x_m_sheet_46, x_m_sheet_49, x_m_sheet_50, x_m_sheet_51, x_m_sheet_52, x_m_sheet_53, x_m_sheet_56, x_m_sheet_57, x_m_sheet_58, x_m_sheet_59, x_m_sheet_62, x_m_sheet_63, x_m_sheet_66, x_m_sheet_67, x_m_sheet_68, x_m_sheet_69, x_m_sheet_73, x_m_sheet_75, x_m_sheet_78, x_m_sheet_79, x_m_sheet_82, x_m_sheet_84, x_m_sheet_85, x_m_sheet_86, x_m_sheet_88, x_m_sheet_89, x_m_sheet_90, x_m_sheet_91, x_m_sheet_94, x_m_sheet_97, x_m_sheet_98, sp_m_isSheet, sp_isInM, XK_s, b01_eq0, eq_true p1, eq_false p2, not_true_eq_false, not_false_eq_true, if_true, if_false]
  · simp (disch := first | assumption | omega) only [e_m_sheet, x_m_sheet_0, x_m_sheet_1, x_m_sheet_4, x_m_sheet_7, x_m_sheet_8, x_m_sheet_9, x_m_sheet_12, x_m_sheet_13, x_m_sheet_16, x_m_sheet_19, x_m_sheet_20, x_m_sheet_21, x_m_sheet_24, x_m_sheet_25, x_m_sheet_27, x_m_sheet_30, x_m_sheet_32, x_m_sheet_33, x_m_sheet_34, x_m_sheet_35, x_m_sheet_38, x_m_sheet_39, x_m_sheet_42, x_m_sheet_44, x_m_sheet_45, x_m_sheet_46, x_m_sheet_49, x_m_sheet_50, x_m_sheet_51, x_m_sheet_52, x_m_sheet_53, x_m_sheet_56, x_m_sheet_57, x_m_sheet_58, x_m_sheet_59, x_m_sheet_62, x_m_sheet_63, x_m_sheet_66, x_m_sheet_67, x_m_sheet_68, x_m_sheet_69, x_m_sheet_73, x_m_sheet_75, x_m_sheet_78, x_m_sheet_79, x_m_sheet_82, x_m_sheet_84, x_m_sheet_85, x_m_sheet_86, x_m_sheet_88, x_m_sheet_89, x_m_sheet_90, x_m_sheet_91, x_m_sheet_94, x_m_sheet_97, x_m_sheet_98, sp_m_isSheet, XK_s, b01_eq0, eq_false p1, not_false_eq_true, if_true]
theorem sp_m_sheet_none {s : Nat} {y : Int32} (hs : s < 4) (hQ : ∀ iv', FS s iv iv' → iv' 123 s = -1 → iv' 124 s = nI 0 → (∀ k, k < 40 → iv' 125 (40 * s + k) = nI 0) → Q (some (.int (nI 1))) (mk iv' jv)) : XM (d + 3) Ym_sheet [.ref 118, .int (nI s), .int (-1), .int y] iv jv Q := by
  have hs3 : s ≤ 3 := by omega
  have p2 : -1 ≤ (-1 : Int32).toInt ∧ (-1 : Int32).toInt ≤ 1 := by decide
  simp (disch := first | assumption | omega) only [e_m_sheet, x_m_sheet_0, x_m_sheet_1, x_m_sheet_4, x_m_sheet_7, x_m_sheet_8, x_m_sheet_9, x_m_sheet_12, x_m_sheet_13, x_m_sheet_16, x_m_sheet_19, x_m_sheet_20, x_m_sheet_21, x_m_sheet_24, x_m_sheet_25, x_m_sheet_27, x_m_sheet_30, x_m_sheet_32, x_m_sheet_33, x_m_sheet_34, x_m_sheet_35, x_m_sheet_38, x_m_sheet_39, x_m_sheet_42, x_m_sheet_44, x_m_sheet_45, x_m_sheet_46, x_m_sheet_49, x_m_sheet_50, x_m_sheet_51, x_m_sheet_52, x_m_sheet_53, x_m_sheet_56, x_m_sheet_57, x_m_sheet_58, x_m_sheet_59, x_m_sheet_62, x_m_sheet_63, x_m_sheet_66, x_m_sheet_67, x_m_sheet_68, x_m_sheet_69, x_m_sheet_73, x_m_sheet_75, x_m_sheet_78, x_m_sheet_79, x_m_sheet_82, x_m_sheet_84, x_m_sheet_85, x_m_sheet_86, x_m_sheet_88, x_m_sheet_89, x_m_sheet_90, x_m_sheet_91, x_m_sheet_94, x_m_sheet_97, x_m_sheet_98, sp_isSheetN, sp_isInM, XK_s, b01_eq0, hs3, eq_true p2, not_true_eq_false, if_true, if_false, q_in, q_tn, true_and]
  refine lp_m_sheet (iv := upi (upi iv 123 s (-1)) 124 s (nI 0)) hs (fun iv' h1 h2 => hQ iv' (fun q j e1 e2 e3 => ?_) ?_ ?_ h2) 40 0 (by omega) _ (fun _ _ _ => rfl) (fun k hk => absurd hk (by omega))
  · rw [h1 q j e3, upi_ne e2, upi_ne e1]
  · rw [h1 123 s (by omega), upi_ne (by omega), upi_at]
  · rw [h1 124 s (by omega), upi_at]
theorem sp_m_sheet_neg {s o : Nat} {y : Int32} (hs : s < 4) (ho : o < 2) (hy : y.toInt < 0) : XM (d + 3) Ym_sheet [.ref 118, .int (nI s), .int (nI o), .int y] iv jv Q = Q (some (.int (-14))) (mk iv jv) := by
  have hs3 : s ≤ 3 := by omega
  have p2 : -1 ≤ (nI o).toInt ∧ (nI o).toInt ≤ 1 := by rw [nI_toI (by omega)]; omega
  have p4 : ¬ (((40 : Nat) : Int) < y.toInt) := by omega
  have p4' : y.toInt ≤ ((40 : Nat) : Int) := by omega
  have p5 : y.toInt < ((0 : Nat) : Int) := hy
  have p5' : ¬ (((0 : Nat) : Int) ≤ y.toInt) := by omega
  simp (disch := first | assumption | omega) only [e_m_sheet, x_m_sheet_0, x_m_sheet_1, x_m_sheet_4, x_m_sheet_7, x_m_sheet_8, x_m_sheet_9, x_m_sheet_12, x_m_sheet_13, x_m_sheet_16, x_m_sheet_19, x_m_sheet_20, x_m_sheet_21, x_m_sheet_24, x_m_sheet_25, x_m_sheet_27, x_m_sheet_30, x_m_sheet_32, x_m_sheet_33, x_m_sheet_34, x_m_sheet_35, x_m_sheet_38, x_m_sheet_39, x_m_sheet_42, x_m_sheet_44, x_m_sheet_45, x_m_sheet_46, x_m_sheet_49, x_m_sheet_50, x_m_sheet_51, x_m_sheet_52, x_m_sheet_53, x_m_sheet_56, x_m_sheet_57, x_m_sheet_58, x_m_sheet_59, x_m_sheet_62, x_m_sheet_63, x_m_sheet_66, x_m_sheet_67, x_m_sheet_68, x_m_sheet_69, x_m_sheet_73, x_m_sheet_75, x_m_sheet_78, x_m_sheet_79, x_m_sheet_82, x_m_sheet_84, x_m_sheet_85, x_m_sheet_86, x_m_sheet_88, x_m_sheet_89, x_m_sheet_90, x_m_sheet_91, x_m_sheet_94, x_m_sheet_97, x_m_sheet_98, sp_isSheetN, sp_isInM, XK_s, b01_eq0, hs3, eq_true p2, nm0', not_true_eq_false, if_true, if_false, t_lt, t_gt, t_le, t_ge, p4, p4', p5, p5']
theorem sp_m_sheet_of {s o n : Nat} (hs : s < 4) (ho : o < 2) (hn : n ≤ 40) (hQ : ∀ iv', FS s iv iv' → iv' 123 s = nI o → iv' 124 s = nI n → (∀ k, k < 40 → iv' 125 (40 * s + k) = nI 0) → Q (some (.int (nI 1))) (mk iv' jv)) : XM (d + 3) Ym_sheet [.ref 118, .int (nI s), .int (nI o), .int (nI n)] iv jv Q := by
  have hs3 : s ≤ 3 := by omega
  have p2 : -1 ≤ (nI o).toInt ∧ (nI o).toInt ≤ 1 := by rw [nI_toI (by omega)]; omega
  have p4 : ¬ (40 < n) := by omega
  have p5 : ¬ (n < 0) := by omega
  simp (disch := first | assumption | omega) only [e_m_sheet, x_m_sheet_0, x_m_sheet_1, x_m_sheet_4, x_m_sheet_7, x_m_sheet_8, x_m_sheet_9, x_m_sheet_12, x_m_sheet_13, x_m_sheet_16, x_m_sheet_19, x_m_sheet_20, x_m_sheet_21, x_m_sheet_24, x_m_sheet_25, x_m_sheet_27, x_m_sheet_30, x_m_sheet_32, x_m_sheet_33, x_m_sheet_34, x_m_sheet_35, x_m_sheet_38, x_m_sheet_39, x_m_sheet_42, x_m_sheet_44, x_m_sheet_45, x_m_sheet_46, x_m_sheet_49, x_m_sheet_50, x_m_sheet_51, x_m_sheet_52, x_m_sheet_53, x_m_sheet_56, x_m_sheet_57, x_m_sheet_58, x_m_sheet_59, x_m_sheet_62, x_m_sheet_63, x_m_sheet_66, x_m_sheet_67, x_m_sheet_68, x_m_sheet_69, x_m_sheet_73, x_m_sheet_75, x_m_sheet_78, x_m_sheet_79, x_m_sheet_82, x_m_sheet_84, x_m_sheet_85, x_m_sheet_86, x_m_sheet_88, x_m_sheet_89, x_m_sheet_90, x_m_sheet_91, x_m_sheet_94, x_m_sheet_97, x_m_sheet_98, sp_isSheetN, sp_isInM, XK_s, b01_eq0, hs3, eq_true p2, nm0', not_true_eq_false, if_true, if_false, q_lt, q_le, hn, p4, p5, Nat.zero_le, q_in, q_tn, true_and]
  refine lp_m_sheet (iv := upi (upi iv 123 s (nI o)) 124 s (nI n)) hs (fun iv' h1 h2 => hQ iv' (fun q j e1 e2 e3 => ?_) ?_ ?_ h2) 40 0 (by omega) _ (fun _ _ _ => rfl) (fun k hk => absurd hk (by omega))
  · rw [h1 q j e3, upi_ne e2, upi_ne e1]
  · rw [h1 123 s (by omega), upi_ne (by omega), upi_at]
  · rw [h1 124 s (by omega), upi_at]
/-! put -/
theorem sp_m_put_bad {x y z : Int32} (h : ¬ isSh x) : XM (d + 3) Ym_put [.ref 118, .int x, .int y, .int z] iv jv Q = Q (some (.int (-2))) (mk iv jv) := by
  have p1 : ¬ (((0 : Nat) : Int) ≤ x.toInt ∧ x.toInt ≤ ((3 : Nat) : Int)) := h
  simp (disch := first | assumption | omega) only [e_m_put, x_m_put_0, x_m_put_1, x_m_put_4, x_m_put_7, x_m_put_9, x_m_put_10, x_m_put_11, x_m_put_14, x_m_put_15, x_m_put_16, x_m_put_17, x_m_put_20, x_m_put_22, x_m_put_23, x_m_put_24, x_m_put_25, x_m_put_26, x_m_put_27, x_m_put_30, x_m_put_33, x_m_put_35, x_m_put_36, x_m_put_37, x_m_put_40, x_m_put_42, x_m_put_43, x_m_put_44, x_m_put_45, x_m_put_46, x_m_put_47, x_m_put_50, x_m_put_51, x_m_put_52, x_m_put_55, x_m_put_56, x_m_put_57, x_m_put_60, x_m_put_61, x_m_put_62, x_m_put_63, sp_m_isSheet, XK_s, b01_eq0, eq_false p1, not_false_eq_true, if_true]
theorem sp_m_isCell {s : Nat} (x : Int32) (hs : s < 4) (hZ : iv 124 s = nI n) (hn : n ≤ 40) : XM (d + 2) Ym_isCell [.ref 118, .int (nI s), .long x.toInt64] iv jv Q = Q (some (.int (b01 (0 ≤ x.toInt ∧ x.toInt < (n : Int))))) (mk iv jv) := by
  simp (disch := first | assumption | omega) only [e_m_isCell, x_m_isCell_0, x_m_isCell_1, x_m_isCell_2, x_m_isCell_3, x_m_isCell_6, x_m_isCell_7, x_m_isCell_8, x_m_isCell_9, x_m_isCell_10, x_m_isCell_11, x_m_isCell_14, q_in, q_tn, true_and, hZ, sp_isIn1 (n := n) (show n ≤ 100 from by omega), XK_s, b01_ok]
theorem sp_m_put {s : Nat} {S x v : Int32} (hs : s < 4) (hS : iv 123 s = S) (hZ : iv 124 s = nI n) (hn : n ≤ 40) : XM (d + 3) Ym_put [.ref 118, .int (nI s), .int x, .int v] iv jv Q = if S = -1 then Q (some (.int (-11))) (mk iv jv) else if 0 ≤ x.toInt ∧ x.toInt < (n : Int) then Q (some (.int (nI 1))) (mk (upi iv 125 (40 * s + x.toInt.toNat) (if S = nI 0 then v.toInt8.toInt32 else v)) jv) else Q (some (.int (-12))) (mk iv jv) := by
  have hs3 : s ≤ 3 := by omega
  by_cases p : S = -1
  · simp (disch := first | assumption | omega) only [e_m_put, x_m_put_0, x_m_put_1, x_m_put_4, x_m_put_7, x_m_put_9, x_m_put_10, x_m_put_11, x_m_put_14, x_m_put_15, x_m_put_16, x_m_put_17, x_m_put_20, x_m_put_22, x_m_put_23, x_m_put_24, x_m_put_25, x_m_put_26, x_m_put_27, x_m_put_30, x_m_put_33, x_m_put_35, x_m_put_36, x_m_put_37, x_m_put_40, x_m_put_42, x_m_put_43, x_m_put_44, x_m_put_45, x_m_put_46, x_m_put_47, x_m_put_50, x_m_put_51, x_m_put_52, x_m_put_55, x_m_put_56, x_m_put_57, x_m_put_60, x_m_put_61, x_m_put_62, x_m_put_63, sp_isSheetN, XK_s, b01_eq0, hs3, not_true_eq_false, if_true, if_false, q_in, q_tn, true_and, hS, p]
  · by_cases p2 : 0 ≤ x.toInt ∧ x.toInt < (n : Int)
    · obtain ⟨k, hk, rfl⟩ := inR_of (x := x) (m := 39) ⟨p2.1, by omega⟩ (by decide)
      have e : (nI k).toInt.toNat = k := by rw [nI_toI (by omega)]; rfl
      by_cases p3 : S = nI 0
      · simp (disch := first | assumption | omega) only [e_m_put, x_m_put_0, x_m_put_1, x_m_put_4, x_m_put_7, x_m_put_9, x_m_put_10, x_m_put_11, x_m_put_14, x_m_put_15, x_m_put_16, x_m_put_17, x_m_put_20, x_m_put_22, x_m_put_23, x_m_put_24, x_m_put_25, x_m_put_26, x_m_put_27, x_m_put_30, x_m_put_33, x_m_put_35, x_m_put_36, x_m_put_37, x_m_put_40, x_m_put_42, x_m_put_43, x_m_put_44, x_m_put_45, x_m_put_46, x_m_put_47, x_m_put_50, x_m_put_51, x_m_put_52, x_m_put_55, x_m_put_56, x_m_put_57, x_m_put_60, x_m_put_61, x_m_put_62, x_m_put_63, sp_isSheetN, XK_s, b01_eq0, hs3, not_true_eq_false, if_true, if_false, q_in, q_tn, true_and, hS, eq_false p, sp_m_isCell (nI k) hs hZ hn, eq_true p2, q_mul, q_add, eq_true p3, e]
      · simp (disch := first | assumption | omega) only [e_m_put, x_m_put_0, x_m_put_1, x_m_put_4, x_m_put_7, x_m_put_9, x_m_put_10, x_m_put_11, x_m_put_14, x_m_put_15, x_m_put_16, x_m_put_17, x_m_put_20, x_m_put_22, x_m_put_23, x_m_put_24, x_m_put_25, x_m_put_26, x_m_put_27, x_m_put_30, x_m_put_33, x_m_put_35, x_m_put_36, x_m_put_37, x_m_put_40, x_m_put_42, x_m_put_43, x_m_put_44, x_m_put_45, x_m_put_46, x_m_put_47, x_m_put_50, x_m_put_51, x_m_put_52, x_m_put_55, x_m_put_56, x_m_put_57, x_m_put_60, x_m_put_61, x_m_put_62, x_m_put_63, sp_isSheetN, XK_s, b01_eq0, hs3, not_true_eq_false, if_true, if_false, q_in, q_tn, true_and, hS, eq_false p, sp_m_isCell (nI k) hs hZ hn, eq_true p2, q_mul, q_add, eq_false p3, e]
    · simp (disch := first | assumption | omega) only [e_m_put, x_m_put_0, x_m_put_1, x_m_put_4, x_m_put_7, x_m_put_9, x_m_put_10, x_m_put_11, x_m_put_14, x_m_put_15, x_m_put_16, x_m_put_17, x_m_put_20, x_m_put_22, x_m_put_23, x_m_put_24, x_m_put_25, x_m_put_26, x_m_put_27, x_m_put_30, x_m_put_33, x_m_put_35, x_m_put_36, x_m_put_37, x_m_put_40, x_m_put_42, x_m_put_43, x_m_put_44, x_m_put_45, x_m_put_46, x_m_put_47, x_m_put_50, x_m_put_51, x_m_put_52, x_m_put_55, x_m_put_56, x_m_put_57, x_m_put_60, x_m_put_61, x_m_put_62, x_m_put_63, sp_isSheetN, XK_s, b01_eq0, hs3, not_true_eq_false, not_false_eq_true, if_true, if_false, q_in, q_tn, true_and, hS, eq_false p, sp_m_isCell x hs hZ hn, eq_false p2]
end SHEET2
