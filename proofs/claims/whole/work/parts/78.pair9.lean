section PAIR9
variable {d t : Nat} {iv iv1 iv2 : mI} {jv jv1 jv2 : mJ} {G : Nat → Nat} {B : Nat} {Q : Option Value → mH → Prop}
theorem m1n0 : ((-1 : Int32) = nI 0) = False := nm0 (by decide)
theorem m1n1 : ((-1 : Int32) = nI 1) = False := nm0 (by decide)
theorem pr_sheet (hI : INV t iv jv) (x o y : Int32) : XM (d + 12) Yt_sheet [.ref 0, .int x, .int o, .int y] iv jv (Q1 (d + 12) t Ym_sheet [.ref 118, .int x, .int o, .int y]) := by
  obtain ⟨G, hT, hC, hG, hM, hS⟩ := hI
  have hB := hT.1
  by_cases h : shO x o y
  · obtain ⟨hx, ho⟩ := h
    obtain ⟨s, hs3, rfl⟩ := nat8 (m := 3) (x := x) hx (by decide)
    have hs : s < 4 := by omega
    obtain ⟨r0, r1⟩ := shH hs
    rcases ho with rfl | ⟨ho, hy⟩
    · simp (disch := first | assumption | omega) only [e_t_sheet, x_t_sheet_0, x_t_sheet_1, x_t_sheet_4, x_t_sheet_7, x_t_sheet_9, x_t_sheet_10, x_t_sheet_11, x_t_sheet_12, x_t_sheet_15, x_t_sheet_16, x_t_sheet_19, x_t_sheet_20, x_t_sheet_21, x_t_sheet_22, x_t_sheet_23, x_t_sheet_26, x_t_sheet_27, x_t_sheet_28, x_t_sheet_29, x_t_sheet_32, x_t_sheet_35, x_t_sheet_36, x_t_sheet_38, x_t_sheet_41, x_t_sheet_43, x_t_sheet_44, x_t_sheet_45, x_t_sheet_48, x_t_sheet_50, x_t_sheet_51, x_t_sheet_52, x_t_sheet_55, x_t_sheet_56, x_t_sheet_57, x_t_sheet_58, x_t_sheet_59, x_t_sheet_62, x_t_sheet_63, sp_tSN, XK_s, b01_eq0, hs3, not_true_eq_false, if_false, if_true, q_in, q_tn, true_and, r0]
      refine sp_h_become (d := d + 9) (n := 0) r0 r1 (shN hs) (by decide) (fun iv1 hF1 a0 a1 a2 => ?_)
      simp (disch := first | assumption | omega) only [XK_n, x_t_sheet_0, x_t_sheet_1, x_t_sheet_4, x_t_sheet_7, x_t_sheet_9, x_t_sheet_10, x_t_sheet_11, x_t_sheet_12, x_t_sheet_15, x_t_sheet_16, x_t_sheet_19, x_t_sheet_20, x_t_sheet_21, x_t_sheet_22, x_t_sheet_23, x_t_sheet_26, x_t_sheet_27, x_t_sheet_28, x_t_sheet_29, x_t_sheet_32, x_t_sheet_35, x_t_sheet_36, x_t_sheet_38, x_t_sheet_41, x_t_sheet_43, x_t_sheet_44, x_t_sheet_45, x_t_sheet_48, x_t_sheet_50, x_t_sheet_51, x_t_sheet_52, x_t_sheet_55, x_t_sheet_56, x_t_sheet_57, x_t_sheet_58, x_t_sheet_59, x_t_sheet_62, x_t_sheet_63]
      refine Q1_i (sp_m_sheet_none (d := d + 9) hs (fun iv3 hF3 h3 h4 h5 => Q2_i (INV_s hs hT hC hG hM hS hF1 hF3 ⟨?_, Or.inl h3, 0, by decide, ?_, h4, fun l hl => absurd hl (by omega)⟩)))
      · rw [hF3 _ _ (by omega) (by omega) (by omega), a0, h3]
      · rw [hF3 _ _ (by omega) (by omega) (by omega)]; exact a1
    · obtain ⟨o', ho2, rfl⟩ : ∃ o', o' < 2 ∧ o = nI o' := by
        rcases ho with rfl | rfl
        · exact ⟨0, by decide, rfl⟩
        · exact ⟨1, by decide, rfl⟩
      have hso : nI o' = nI 0 ∨ nI o' = nI 1 := ho
      have om := nm0' (k := o') (by omega)
      have hy' : y.toInt ≤ ((40 : Nat) : Int) := hy
      by_cases hy0 : y.toInt < 0
      · have hy1 : ¬ ((0 : Nat) : Int) ≤ y.toInt := by omega
        simp (disch := first | assumption | omega) only [e_t_sheet, x_t_sheet_0, x_t_sheet_1, x_t_sheet_4, x_t_sheet_7, x_t_sheet_9, x_t_sheet_10, x_t_sheet_11, x_t_sheet_12, x_t_sheet_15, x_t_sheet_16, x_t_sheet_19, x_t_sheet_20, x_t_sheet_21, x_t_sheet_22, x_t_sheet_23, x_t_sheet_26, x_t_sheet_27, x_t_sheet_28, x_t_sheet_29, x_t_sheet_32, x_t_sheet_35, x_t_sheet_36, x_t_sheet_38, x_t_sheet_41, x_t_sheet_43, x_t_sheet_44, x_t_sheet_45, x_t_sheet_48, x_t_sheet_50, x_t_sheet_51, x_t_sheet_52, x_t_sheet_55, x_t_sheet_56, x_t_sheet_57, x_t_sheet_58, x_t_sheet_59, x_t_sheet_62, x_t_sheet_63, sp_tSN, sp_t_isSort, XK_s, b01_eq0, hs3, not_true_eq_false, if_false, om, eq_true hso, t_le, t_ge, hy', hy1, if_true]
        refine Q1_i ?_
        rw [sp_m_sheet_neg (d := d + 9) hs ho2 hy0]
        exact Q2_i (INV_r hT hC hG hM hS)
      · obtain ⟨n, hn, rfl⟩ := nat8 (m := 40) (x := y) ⟨by omega, hy⟩ (by decide)
        have hy1 : ((0 : Nat) : Int) ≤ (nI n).toInt := by omega
        simp (disch := first | assumption | omega) only [e_t_sheet, x_t_sheet_0, x_t_sheet_1, x_t_sheet_4, x_t_sheet_7, x_t_sheet_9, x_t_sheet_10, x_t_sheet_11, x_t_sheet_12, x_t_sheet_15, x_t_sheet_16, x_t_sheet_19, x_t_sheet_20, x_t_sheet_21, x_t_sheet_22, x_t_sheet_23, x_t_sheet_26, x_t_sheet_27, x_t_sheet_28, x_t_sheet_29, x_t_sheet_32, x_t_sheet_35, x_t_sheet_36, x_t_sheet_38, x_t_sheet_41, x_t_sheet_43, x_t_sheet_44, x_t_sheet_45, x_t_sheet_48, x_t_sheet_50, x_t_sheet_51, x_t_sheet_52, x_t_sheet_55, x_t_sheet_56, x_t_sheet_57, x_t_sheet_58, x_t_sheet_59, x_t_sheet_62, x_t_sheet_63, sp_tSN, sp_t_isSort, XK_s, b01_eq0, hs3, not_true_eq_false, if_false, om, eq_true hso, t_le, t_ge, hy', hy1, if_true, q_in, q_tn, true_and, r0]
        refine sp_h_become (d := d + 9) (n := n) r0 r1 (shN hs) hn (fun iv1 hF1 a0 a1 a2 => ?_)
        simp (disch := first | assumption | omega) only [XK_n, x_t_sheet_0, x_t_sheet_1, x_t_sheet_4, x_t_sheet_7, x_t_sheet_9, x_t_sheet_10, x_t_sheet_11, x_t_sheet_12, x_t_sheet_15, x_t_sheet_16, x_t_sheet_19, x_t_sheet_20, x_t_sheet_21, x_t_sheet_22, x_t_sheet_23, x_t_sheet_26, x_t_sheet_27, x_t_sheet_28, x_t_sheet_29, x_t_sheet_32, x_t_sheet_35, x_t_sheet_36, x_t_sheet_38, x_t_sheet_41, x_t_sheet_43, x_t_sheet_44, x_t_sheet_45, x_t_sheet_48, x_t_sheet_50, x_t_sheet_51, x_t_sheet_52, x_t_sheet_55, x_t_sheet_56, x_t_sheet_57, x_t_sheet_58, x_t_sheet_59, x_t_sheet_62, x_t_sheet_63]
        refine Q1_i (sp_m_sheet_of (d := d + 9) hs ho2 hn (fun iv3 hF3 h3 h4 h5 => Q2_i (INV_s hs hT hC hG hM hS hF1 hF3 ⟨?_, ?_, n, hn, ?_, h4, fun l hl => ?_⟩)))
        · rw [hF3 _ _ (by omega) (by omega) (by omega), a0, h3]
        · rw [h3]; exact Or.inr hso
        · rw [hF3 _ _ (by omega) (by omega) (by omega)]; exact a1
        · rw [hF3 _ _ (by omega) (by omega) (by omega), a2 l (by omega), h5 l (by omega)]
  · have fin : Q1 (d + 12) t Ym_sheet [.ref 118, .int x, .int o, .int y] (some (.int (-2))) (mk iv jv) := by
      refine Q1_i ?_
      rw [sp_m_sheet_bad (d := d + 9) h]
      exact Q2_i (INV_r hT hC hG hM hS)
    unfold shO isSh at h
    by_cases p1 : ((0 : Nat) : Int) ≤ x.toInt ∧ x.toInt ≤ ((3 : Nat) : Int)
    · have p2 : ¬ o = -1 := fun e => h ⟨p1, Or.inl e⟩
      by_cases p3 : o = nI 0 ∨ o = nI 1
      · have p4 : ¬ y.toInt ≤ ((40 : Nat) : Int) := fun e => h ⟨p1, Or.inr ⟨p3, e⟩⟩
        simp (disch := first | assumption | omega) only [e_t_sheet, x_t_sheet_0, x_t_sheet_1, x_t_sheet_4, x_t_sheet_7, x_t_sheet_9, x_t_sheet_10, x_t_sheet_11, x_t_sheet_12, x_t_sheet_15, x_t_sheet_16, x_t_sheet_19, x_t_sheet_20, x_t_sheet_21, x_t_sheet_22, x_t_sheet_23, x_t_sheet_26, x_t_sheet_27, x_t_sheet_28, x_t_sheet_29, x_t_sheet_32, x_t_sheet_35, x_t_sheet_36, x_t_sheet_38, x_t_sheet_41, x_t_sheet_43, x_t_sheet_44, x_t_sheet_45, x_t_sheet_48, x_t_sheet_50, x_t_sheet_51, x_t_sheet_52, x_t_sheet_55, x_t_sheet_56, x_t_sheet_57, x_t_sheet_58, x_t_sheet_59, x_t_sheet_62, x_t_sheet_63, sp_t_isSheet, sp_t_isSort, XK_s, b01_eq0, eq_true p1, eq_false p2, eq_true p3, t_le, p4, not_true_eq_false, if_false]
        exact fin
      · simp (disch := first | assumption | omega) only [e_t_sheet, x_t_sheet_0, x_t_sheet_1, x_t_sheet_4, x_t_sheet_7, x_t_sheet_9, x_t_sheet_10, x_t_sheet_11, x_t_sheet_12, x_t_sheet_15, x_t_sheet_16, x_t_sheet_19, x_t_sheet_20, x_t_sheet_21, x_t_sheet_22, x_t_sheet_23, x_t_sheet_26, x_t_sheet_27, x_t_sheet_28, x_t_sheet_29, x_t_sheet_32, x_t_sheet_35, x_t_sheet_36, x_t_sheet_38, x_t_sheet_41, x_t_sheet_43, x_t_sheet_44, x_t_sheet_45, x_t_sheet_48, x_t_sheet_50, x_t_sheet_51, x_t_sheet_52, x_t_sheet_55, x_t_sheet_56, x_t_sheet_57, x_t_sheet_58, x_t_sheet_59, x_t_sheet_62, x_t_sheet_63, sp_t_isSheet, sp_t_isSort, XK_s, b01_eq0, eq_true p1, eq_false p2, eq_false p3, not_true_eq_false, not_false_eq_true, if_false, if_true]
        exact fin
    · simp (disch := first | assumption | omega) only [e_t_sheet, x_t_sheet_0, x_t_sheet_1, x_t_sheet_4, x_t_sheet_7, x_t_sheet_9, x_t_sheet_10, x_t_sheet_11, x_t_sheet_12, x_t_sheet_15, x_t_sheet_16, x_t_sheet_19, x_t_sheet_20, x_t_sheet_21, x_t_sheet_22, x_t_sheet_23, x_t_sheet_26, x_t_sheet_27, x_t_sheet_28, x_t_sheet_29, x_t_sheet_32, x_t_sheet_35, x_t_sheet_36, x_t_sheet_38, x_t_sheet_41, x_t_sheet_43, x_t_sheet_44, x_t_sheet_45, x_t_sheet_48, x_t_sheet_50, x_t_sheet_51, x_t_sheet_52, x_t_sheet_55, x_t_sheet_56, x_t_sheet_57, x_t_sheet_58, x_t_sheet_59, x_t_sheet_62, x_t_sheet_63, sp_t_isSheet, XK_s, b01_eq0, eq_false p1, not_false_eq_true, if_true]
      exact fin
theorem pr_put (hI : INV t iv jv) (x y v : Int32) : XM (d + 12) Yt_put [.ref 0, .int x, .int y, .int v] iv jv (Q1 (d + 12) t Ym_put [.ref 118, .int x, .int y, .int v]) := by
  obtain ⟨G, hT, hC, hG, hM, hS⟩ := hI
  have hB := hT.1
  by_cases h : isSh x
  · obtain ⟨s, hs3, rfl⟩ := nat8 (m := 3) (x := x) h (by decide)
    have hs : s < 4 := by omega
    obtain ⟨r0, r1⟩ := shH hs
    obtain ⟨e0, e1, n, hn, z1, z2, hc⟩ := id (hS s hs)
    have hput := fun (iv1 : mI) (a : iv1 123 s = iv 123 s) (b : iv1 124 s = nI n) (Q : Option Value → mH → Prop) => sp_m_put (d := d + 9) (iv := iv1) (jv := jv) (Q := Q) (x := y) (v := v) hs a b hn
    by_cases p : iv (110 + 2 * s) 0 = -1
    · simp (disch := first | assumption | omega) only [e_t_put, x_t_put_0, x_t_put_1, x_t_put_4, x_t_put_7, x_t_put_9, x_t_put_10, x_t_put_11, x_t_put_14, x_t_put_15, x_t_put_16, x_t_put_18, x_t_put_20, x_t_put_23, x_t_put_26, x_t_put_28, x_t_put_29, x_t_put_31, x_t_put_32, x_t_put_33, x_t_put_36, x_t_put_39, x_t_put_41, x_t_put_42, x_t_put_44, x_t_put_45, x_t_put_46, x_t_put_49, x_t_put_50, sp_tSN, XK_s, b01_eq0, hs3, not_true_eq_false, if_false, q_in, q_tn, true_and, r0, sp_h_isMissing r0, eq_true p]
      refine Q1_i ?_
      rw [hput iv rfl z2, if_pos (e0.symm.trans p)]
      exact Q2_i (INV_r hT hC hG hM hS)
    · have pm : ¬ iv 123 s = -1 := fun e => p (e0.trans e)
      by_cases p2 : 0 ≤ y.toInt ∧ y.toInt < (n : Int)
      · obtain ⟨i, hi, rfl⟩ := inR_of (x := y) (m := 39) ⟨p2.1, by omega⟩ (by decide)
        have ei : (nI i).toInt = (i : Int) := nI_toI (by omega)
        have e1' : (nI 1).toInt = ((1 : Nat) : Int) := nI_toI (by decide)
        have hin : i < n := by rw [ei] at p2; omega
        have p3 : 0 ≤ (nI i).toInt ∧ 0 ≤ (nI 1).toInt ∧ (nI i).toInt + (nI 1).toInt ≤ (n : Int) := by rw [ei, e1']; omega
        have hw := fun (Q : Option Value → mH → Prop) => sp_h_write (d := d + 9) (jv := jv) (Q := Q) (v := v) r0 r1 (shN hs) z1 hn hin
        simp (disch := first | assumption | omega) only [e_t_put, x_t_put_0, x_t_put_1, x_t_put_4, x_t_put_7, x_t_put_9, x_t_put_10, x_t_put_11, x_t_put_14, x_t_put_15, x_t_put_16, x_t_put_18, x_t_put_20, x_t_put_23, x_t_put_26, x_t_put_28, x_t_put_29, x_t_put_31, x_t_put_32, x_t_put_33, x_t_put_36, x_t_put_39, x_t_put_41, x_t_put_42, x_t_put_44, x_t_put_45, x_t_put_46, x_t_put_49, x_t_put_50, sp_tSN, XK_s, XK_n, b01_eq0, hs3, not_true_eq_false, not_false_eq_true, if_false, if_true, q_in, q_tn, true_and, r0, sp_h_isMissing r0, eq_false p, sp_h_has (nI i) (nI 1) r0 z1 hn, eq_true p3, hw]
        refine Q1_i ?_
        rw [hput _ (upi_ne (by omega)) (by rw [upi_ne (by omega)]; exact z2), if_neg pm, if_pos p2, show (nI i).toInt.toNat = i from by rw [ei]; rfl]
        refine Q2_i (INV_s (iv1 := upi iv (110 + 2 * s + 1) i (if iv (110 + 2 * s) 0 = nI 0 then v.toInt8.toInt32 else v)) hs hT hC hG hM hS (fun a k h1 h2 => upi_ne (by omega)) (FS_5 (FS_r s _) (by omega)) ⟨?_, ?_, n, hn, ?_, ?_, fun l hl => ?_⟩)
        · rw [upi_ne (by omega), upi_ne (by omega), upi_ne (by omega), upi_ne (by omega)]; exact e0
        · rw [upi_ne (by omega), upi_ne (by omega)]; exact e1
        · rw [upi_ne (by omega), upi_ne (by omega)]; exact z1
        · rw [upi_ne (by omega), upi_ne (by omega)]; exact z2
        · by_cases el : l = i
          · subst el
            rw [upi_ne (by omega), upi_at, upi_at, e0]
          · rw [upi_ne (by omega), upi_ne (by omega), upi_ne (by omega), upi_ne (by omega)]; exact hc l hl
      · have e1' : (nI 1).toInt = ((1 : Nat) : Int) := nI_toI (by decide)
        have p3 : ¬ (0 ≤ y.toInt ∧ 0 ≤ (nI 1).toInt ∧ y.toInt + (nI 1).toInt ≤ (n : Int)) := by rw [e1']; omega
        simp (disch := first | assumption | omega) only [e_t_put, x_t_put_0, x_t_put_1, x_t_put_4, x_t_put_7, x_t_put_9, x_t_put_10, x_t_put_11, x_t_put_14, x_t_put_15, x_t_put_16, x_t_put_18, x_t_put_20, x_t_put_23, x_t_put_26, x_t_put_28, x_t_put_29, x_t_put_31, x_t_put_32, x_t_put_33, x_t_put_36, x_t_put_39, x_t_put_41, x_t_put_42, x_t_put_44, x_t_put_45, x_t_put_46, x_t_put_49, x_t_put_50, sp_tSN, XK_s, b01_eq0, hs3, not_true_eq_false, not_false_eq_true, if_false, if_true, q_in, q_tn, true_and, r0, sp_h_isMissing r0, eq_false p, sp_h_has y (nI 1) r0 z1 hn, eq_false p3]
        refine Q1_i ?_
        rw [hput iv rfl z2, if_neg pm, if_neg p2]
        exact Q2_i (INV_r hT hC hG hM hS)
  · have p1 : ¬ (((0 : Nat) : Int) ≤ x.toInt ∧ x.toInt ≤ ((3 : Nat) : Int)) := h
    simp (disch := first | assumption | omega) only [e_t_put, x_t_put_0, x_t_put_1, x_t_put_4, x_t_put_7, x_t_put_9, x_t_put_10, x_t_put_11, x_t_put_14, x_t_put_15, x_t_put_16, x_t_put_18, x_t_put_20, x_t_put_23, x_t_put_26, x_t_put_28, x_t_put_29, x_t_put_31, x_t_put_32, x_t_put_33, x_t_put_36, x_t_put_39, x_t_put_41, x_t_put_42, x_t_put_44, x_t_put_45, x_t_put_46, x_t_put_49, x_t_put_50, sp_t_isSheet, XK_s, b01_eq0, eq_false p1, not_false_eq_true, if_true]
    refine Q1_i ?_
    rw [sp_m_put_bad (d := d + 9) h]
    exact Q2_i (INV_r hT hC hG hM hS)
theorem pr_copy (hI : INV t iv jv) (x i y j n : Int32) : XM (d + 12) Yt_copy [.ref 0, .int x, .int i, .int y, .int j, .int n] iv jv (Q1 (d + 12) t Ym_copy [.ref 118, .int x, .int i, .int y, .int j, .int n]) := by
  obtain ⟨G, hT, hC, hG, hM, hS⟩ := hI
  have hB := hT.1
  by_cases h : isC2 x y
  · obtain ⟨s, hs3, rfl⟩ := nat8 (m := 3) (x := x) h.1 (by decide)
    have hs : s < 4 := by omega
    obtain ⟨o, ho3, rfl⟩ := nat8 (m := 3) (x := y) h.2 (by decide)
    have ho : o < 4 := by omega
    obtain ⟨r0, r1⟩ := shH hs
    obtain ⟨u0, u1⟩ := shH ho
    obtain ⟨e0, e1, zs, hzs, z1, z2, hc⟩ := id (hS s hs)
    obtain ⟨f0, f1, zo, hzo, y1, y2, gc⟩ := id (hS o ho)
    have r16 : (shp (110 + 2 * s + 1)).1 = 16 := by rw [r1]
    have u16 : (shp (110 + 2 * o + 1)).1 = 16 := by rw [u1]
    by_cases p1 : iv (110 + 2 * s) 0 = -1
    · simp (disch := first | assumption | omega) only [e_t_copy, x_t_copy_0, x_t_copy_1, x_t_copy_4, x_t_copy_7, x_t_copy_8, x_t_copy_11, x_t_copy_14, x_t_copy_16, x_t_copy_17, x_t_copy_18, x_t_copy_21, x_t_copy_22, x_t_copy_23, x_t_copy_25, x_t_copy_26, x_t_copy_29, x_t_copy_30, x_t_copy_31, x_t_copy_33, x_t_copy_35, x_t_copy_38, x_t_copy_41, x_t_copy_43, x_t_copy_46, x_t_copy_49, x_t_copy_51, x_t_copy_52, x_t_copy_54, x_t_copy_57, x_t_copy_59, x_t_copy_62, x_t_copy_65, x_t_copy_67, x_t_copy_68, x_t_copy_70, x_t_copy_71, x_t_copy_73, x_t_copy_76, x_t_copy_79, x_t_copy_81, x_t_copy_83, x_t_copy_85, x_t_copy_88, x_t_copy_91, x_t_copy_93, x_t_copy_94, x_t_copy_96, x_t_copy_99, x_t_copy_100, x_t_copy_102, x_t_copy_105, x_t_copy_107, x_t_copy_109, x_t_copy_112, x_t_copy_114, sp_tSN, XK_s, b01_eq0, hs3, ho3, not_true_eq_false, if_false, q_in, q_tn, true_and, r0, sp_h_isMissing r0, eq_true p1]
      have q1 : iv 123 s = -1 := e0.symm.trans p1
      exact Q1_i (sp_m_copy (d := d + 9) hs ho rfl rfl z2 hzs y2 hzo (fun _ => Q2_i (INV_r hT hC hG hM hS)) (fun e _ _ => absurd q1 e) (fun e _ _ => absurd q1 e) (fun e _ _ => absurd q1 e))
    · by_cases p2 : iv (110 + 2 * o) 0 = -1
      · simp (disch := first | assumption | omega) only [e_t_copy, x_t_copy_0, x_t_copy_1, x_t_copy_4, x_t_copy_7, x_t_copy_8, x_t_copy_11, x_t_copy_14, x_t_copy_16, x_t_copy_17, x_t_copy_18, x_t_copy_21, x_t_copy_22, x_t_copy_23, x_t_copy_25, x_t_copy_26, x_t_copy_29, x_t_copy_30, x_t_copy_31, x_t_copy_33, x_t_copy_35, x_t_copy_38, x_t_copy_41, x_t_copy_43, x_t_copy_46, x_t_copy_49, x_t_copy_51, x_t_copy_52, x_t_copy_54, x_t_copy_57, x_t_copy_59, x_t_copy_62, x_t_copy_65, x_t_copy_67, x_t_copy_68, x_t_copy_70, x_t_copy_71, x_t_copy_73, x_t_copy_76, x_t_copy_79, x_t_copy_81, x_t_copy_83, x_t_copy_85, x_t_copy_88, x_t_copy_91, x_t_copy_93, x_t_copy_94, x_t_copy_96, x_t_copy_99, x_t_copy_100, x_t_copy_102, x_t_copy_105, x_t_copy_107, x_t_copy_109, x_t_copy_112, x_t_copy_114, sp_tSN, XK_s, b01_eq0, hs3, ho3, not_true_eq_false, not_false_eq_true, if_true, if_false, q_in, q_tn, true_and, r0, u0, sp_h_isMissing r0, sp_h_isMissing u0, eq_false p1, eq_true p2]
        have q2 : iv 123 o = -1 := f0.symm.trans p2
        have q1 : iv 123 s ≠ -1 := fun e => p1 (e0.trans e)
        exact Q1_i (sp_m_copy (d := d + 9) hs ho rfl rfl z2 hzs y2 hzo (fun _ => Q2_i (INV_r hT hC hG hM hS)) (fun _ e _ => absurd q2 e) (fun _ e _ => absurd (e.trans q2) q1) (fun _ e _ => absurd (e.trans q2) q1))
      · have q1 : iv 123 s ≠ -1 := fun e => p1 (e0.trans e)
        have q2 : iv 123 o ≠ -1 := fun e => p2 (f0.trans e)
        by_cases p3 : iv (110 + 2 * s) 0 = iv (110 + 2 * o) 0
        · have q3 : iv 123 s = iv 123 o := e0.symm.trans (p3.trans f0)
          by_cases p4 : cpOk zs zo i j n
          · obtain ⟨a1, a2, a3, a4, a5⟩ := id p4
            obtain ⟨n', hn', rfl⟩ := inR_of (x := n) (m := 40) ⟨a1, by omega⟩ (by decide)
            obtain ⟨i', hi', rfl⟩ := inR_of (x := i) (m := 40) ⟨a2, by omega⟩ (by decide)
            obtain ⟨j', hj', rfl⟩ := inR_of (x := j) (m := 40) ⟨a3, by omega⟩ (by decide)
            have en : (nI n').toInt = (n' : Int) := nI_toI (by omega)
            have ei : (nI i').toInt = (i' : Int) := nI_toI (by omega)
            have ej : (nI j').toInt = (j' : Int) := nI_toI (by omega)
            rw [en, ei] at a4
            rw [en, ej] at a5
            have k1 : 0 ≤ (nI i').toInt ∧ 0 ≤ (nI n').toInt ∧ (nI i').toInt + (nI n').toInt ≤ (zs : Int) := by rw [en, ei]; omega
            have k2 : 0 ≤ (nI j').toInt ∧ 0 ≤ (nI n').toInt ∧ (nI j').toInt + (nI n').toInt ≤ (zo : Int) := by rw [en, ej]; omega
            have m1 : ¬ nI n' < 0 := by rw [show (0 : Int32) = nI 0 from rfl, q_lt (by omega) (by decide)]; omega
            have m2 : ¬ nI i' < 0 := by rw [show (0 : Int32) = nI 0 from rfl, q_lt (by omega) (by decide)]; omega
            have m3 : ¬ nI j' < 0 := by rw [show (0 : Int32) = nI 0 from rfl, q_lt (by omega) (by decide)]; omega
            have l1 : i' + n' ≤ 40 := by omega
            have l2 : j' + n' ≤ 40 := by omega
            simp (disch := first | assumption | omega) only [e_t_copy, x_t_copy_0, x_t_copy_1, x_t_copy_4, x_t_copy_7, x_t_copy_8, x_t_copy_11, x_t_copy_14, x_t_copy_16, x_t_copy_17, x_t_copy_18, x_t_copy_21, x_t_copy_22, x_t_copy_23, x_t_copy_25, x_t_copy_26, x_t_copy_29, x_t_copy_30, x_t_copy_31, x_t_copy_33, x_t_copy_35, x_t_copy_38, x_t_copy_41, x_t_copy_43, x_t_copy_46, x_t_copy_49, x_t_copy_51, x_t_copy_52, x_t_copy_54, x_t_copy_57, x_t_copy_59, x_t_copy_62, x_t_copy_65, x_t_copy_67, x_t_copy_68, x_t_copy_70, x_t_copy_71, x_t_copy_73, x_t_copy_76, x_t_copy_79, x_t_copy_81, x_t_copy_83, x_t_copy_85, x_t_copy_88, x_t_copy_91, x_t_copy_93, x_t_copy_94, x_t_copy_96, x_t_copy_99, x_t_copy_100, x_t_copy_102, x_t_copy_105, x_t_copy_107, x_t_copy_109, x_t_copy_112, x_t_copy_114, sp_tSN, XK_s, b01_eq0, hs3, ho3, not_true_eq_false, not_false_eq_true, if_true, if_false, q_in, q_tn, true_and, r0, u0, r1, u1, sp_h_isMissing r0, sp_h_isMissing u0, eq_false p1, eq_false p2, eq_true p3, sp_h_has (nI i') (nI n') r0 z1 hzs, sp_h_has (nI j') (nI n') u0 y1 hzo, eq_true k1, eq_true k2, m1, m2, m3, l1, l2]
            have w : ∀ q k, q ≠ 110 + 2 * o + 1 → cpi iv (110 + 2 * o + 1) (110 + 2 * s + 1) i' j' n' q k = iv q k := fun q k h => cpi_ne h
            refine Q1_i (sp_m_copy (d := d + 9) hs ho (w _ _ (by omega)) (w _ _ (by omega)) ((w _ _ (by omega)).trans z2) hzs ((w _ _ (by omega)).trans y2) hzo (fun e => ?_) (fun _ _ e => absurd q3 e) (fun _ _ e => absurd p4 e) (fun _ _ _ => ?_))
            · rcases e with e | e
              · exact absurd e q1
              · exact absurd e q2
            · rw [en, ei, ej]
              show Q2 t (.int (nI n')) (some (.int (nI n'))) (mk (cpC (cpi iv (110 + 2 * o + 1) (110 + 2 * s + 1) i' j' n') (40 * s + i') (40 * o + j') 0 n') jv)
              have c : ∀ q k, ¬ (q = 125 ∧ 40 * o + j' + 0 ≤ k ∧ k < 40 * o + j' + n') → cpC (cpi iv (110 + 2 * o + 1) (110 + 2 * s + 1) i' j' n') (40 * s + i') (40 * o + j') 0 n' q k = cpi iv (110 + 2 * o + 1) (110 + 2 * s + 1) i' j' n' q k := fun q k h => by unfold cpC; rw [if_neg h]
              refine Q2_i (INV_s (iv1 := cpi iv (110 + 2 * o + 1) (110 + 2 * s + 1) i' j' n') ho hT hC hG hM hS (fun a k h1 h2 => w a k h2) (fun q k h1 h2 h3 => ?_) ⟨?_, ?_, zo, hzo, ?_, ?_, fun l hl => ?_⟩)
              · exact c q k (by omega)
              · rw [c _ _ (by omega), c _ _ (by omega), w _ _ (by omega), w _ _ (by omega)]; exact f0
              · rw [c _ _ (by omega), w _ _ (by omega)]; exact f1
              · rw [c _ _ (by omega), w _ _ (by omega)]; exact y1
              · rw [c _ _ (by omega), w _ _ (by omega)]; exact y2
              · rw [c _ _ (by omega)]
                by_cases el : j' ≤ l ∧ l < j' + n'
                · have x1 : cpi iv (110 + 2 * o + 1) (110 + 2 * s + 1) i' j' n' (110 + 2 * o + 1) l = iv (110 + 2 * s + 1) (i' + (l - j')) := by
                    unfold cpi; rw [if_pos rfl, if_pos el]
                  have x2 : cpC (cpi iv (110 + 2 * o + 1) (110 + 2 * s + 1) i' j' n') (40 * s + i') (40 * o + j') 0 n' 125 (40 * o + l) = iv 125 (40 * s + (i' + (l - j'))) := by
                    unfold cpC
                    rw [if_pos (by omega), w _ _ (by omega)]
                    congr 1; omega
                  rw [x1, x2]
                  exact hc _ (by omega)
                · have x1 : cpi iv (110 + 2 * o + 1) (110 + 2 * s + 1) i' j' n' (110 + 2 * o + 1) l = iv (110 + 2 * o + 1) l := by
                    unfold cpi; rw [if_pos rfl, if_neg el]
                  rw [x1, c _ _ (by omega), w _ _ (by omega)]
                  exact gc l hl
          · have fin : Q1 (d + 12) t Ym_copy [.ref 118, .int (nI s), .int i, .int (nI o), .int j, .int n] (some (.int (-12))) (mk iv jv) := Q1_i (sp_m_copy (d := d + 9) hs ho rfl rfl z2 hzs y2 hzo (fun e => by
              rcases e with e | e
              · exact absurd e q1
              · exact absurd e q2) (fun _ _ e => absurd q3 e) (fun _ _ _ => Q2_i (INV_r hT hC hG hM hS)) (fun _ _ e => absurd e p4))
            unfold cpOk at p4
            by_cases k1 : 0 ≤ i.toInt ∧ 0 ≤ n.toInt ∧ i.toInt + n.toInt ≤ (zs : Int)
            · have k2 : ¬ (0 ≤ j.toInt ∧ 0 ≤ n.toInt ∧ j.toInt + n.toInt ≤ (zo : Int)) := by omega
              simp (disch := first | assumption | omega) only [e_t_copy, x_t_copy_0, x_t_copy_1, x_t_copy_4, x_t_copy_7, x_t_copy_8, x_t_copy_11, x_t_copy_14, x_t_copy_16, x_t_copy_17, x_t_copy_18, x_t_copy_21, x_t_copy_22, x_t_copy_23, x_t_copy_25, x_t_copy_26, x_t_copy_29, x_t_copy_30, x_t_copy_31, x_t_copy_33, x_t_copy_35, x_t_copy_38, x_t_copy_41, x_t_copy_43, x_t_copy_46, x_t_copy_49, x_t_copy_51, x_t_copy_52, x_t_copy_54, x_t_copy_57, x_t_copy_59, x_t_copy_62, x_t_copy_65, x_t_copy_67, x_t_copy_68, x_t_copy_70, x_t_copy_71, x_t_copy_73, x_t_copy_76, x_t_copy_79, x_t_copy_81, x_t_copy_83, x_t_copy_85, x_t_copy_88, x_t_copy_91, x_t_copy_93, x_t_copy_94, x_t_copy_96, x_t_copy_99, x_t_copy_100, x_t_copy_102, x_t_copy_105, x_t_copy_107, x_t_copy_109, x_t_copy_112, x_t_copy_114, sp_tSN, XK_s, b01_eq0, hs3, ho3, not_true_eq_false, not_false_eq_true, if_true, if_false, q_in, q_tn, true_and, r0, u0, sp_h_isMissing r0, sp_h_isMissing u0, eq_false p1, eq_false p2, eq_true p3, sp_h_has i n r0 z1 hzs, sp_h_has j n u0 y1 hzo, eq_true k1, eq_false k2]
              exact fin
            · simp (disch := first | assumption | omega) only [e_t_copy, x_t_copy_0, x_t_copy_1, x_t_copy_4, x_t_copy_7, x_t_copy_8, x_t_copy_11, x_t_copy_14, x_t_copy_16, x_t_copy_17, x_t_copy_18, x_t_copy_21, x_t_copy_22, x_t_copy_23, x_t_copy_25, x_t_copy_26, x_t_copy_29, x_t_copy_30, x_t_copy_31, x_t_copy_33, x_t_copy_35, x_t_copy_38, x_t_copy_41, x_t_copy_43, x_t_copy_46, x_t_copy_49, x_t_copy_51, x_t_copy_52, x_t_copy_54, x_t_copy_57, x_t_copy_59, x_t_copy_62, x_t_copy_65, x_t_copy_67, x_t_copy_68, x_t_copy_70, x_t_copy_71, x_t_copy_73, x_t_copy_76, x_t_copy_79, x_t_copy_81, x_t_copy_83, x_t_copy_85, x_t_copy_88, x_t_copy_91, x_t_copy_93, x_t_copy_94, x_t_copy_96, x_t_copy_99, x_t_copy_100, x_t_copy_102, x_t_copy_105, x_t_copy_107, x_t_copy_109, x_t_copy_112, x_t_copy_114, sp_tSN, XK_s, b01_eq0, hs3, ho3, not_true_eq_false, not_false_eq_true, if_true, if_false, q_in, q_tn, true_and, r0, u0, sp_h_isMissing r0, sp_h_isMissing u0, eq_false p1, eq_false p2, eq_true p3, sp_h_has i n r0 z1 hzs, eq_false k1]
              exact fin
        · have q3 : iv 123 s ≠ iv 123 o := fun e => p3 (e0.trans (e.trans f0.symm))
          simp (disch := first | assumption | omega) only [e_t_copy, x_t_copy_0, x_t_copy_1, x_t_copy_4, x_t_copy_7, x_t_copy_8, x_t_copy_11, x_t_copy_14, x_t_copy_16, x_t_copy_17, x_t_copy_18, x_t_copy_21, x_t_copy_22, x_t_copy_23, x_t_copy_25, x_t_copy_26, x_t_copy_29, x_t_copy_30, x_t_copy_31, x_t_copy_33, x_t_copy_35, x_t_copy_38, x_t_copy_41, x_t_copy_43, x_t_copy_46, x_t_copy_49, x_t_copy_51, x_t_copy_52, x_t_copy_54, x_t_copy_57, x_t_copy_59, x_t_copy_62, x_t_copy_65, x_t_copy_67, x_t_copy_68, x_t_copy_70, x_t_copy_71, x_t_copy_73, x_t_copy_76, x_t_copy_79, x_t_copy_81, x_t_copy_83, x_t_copy_85, x_t_copy_88, x_t_copy_91, x_t_copy_93, x_t_copy_94, x_t_copy_96, x_t_copy_99, x_t_copy_100, x_t_copy_102, x_t_copy_105, x_t_copy_107, x_t_copy_109, x_t_copy_112, x_t_copy_114, sp_tSN, XK_s, b01_eq0, hs3, ho3, not_true_eq_false, not_false_eq_true, if_true, if_false, q_in, q_tn, true_and, r0, u0, sp_h_isMissing r0, sp_h_isMissing u0, eq_false p1, eq_false p2, eq_false p3]
          exact Q1_i (sp_m_copy (d := d + 9) hs ho rfl rfl z2 hzs y2 hzo (fun e => by
              rcases e with e | e
              · exact absurd e q1
              · exact absurd e q2) (fun _ _ _ => Q2_i (INV_r hT hC hG hM hS)) (fun _ e _ => absurd e q3) (fun _ e _ => absurd e q3))
  · have fin : Q1 (d + 12) t Ym_copy [.ref 118, .int x, .int i, .int y, .int j, .int n] (some (.int (-2))) (mk iv jv) := by
      refine Q1_i ?_
      rw [sp_m_copy_bad (d := d + 9) h]
      exact Q2_i (INV_r hT hC hG hM hS)
    unfold isC2 isSh at h
    by_cases p1 : ((0 : Nat) : Int) ≤ x.toInt ∧ x.toInt ≤ ((3 : Nat) : Int)
    · have p2 : ¬ (((0 : Nat) : Int) ≤ y.toInt ∧ y.toInt ≤ ((3 : Nat) : Int)) := by omega
      simp (disch := first | assumption | omega) only [e_t_copy, x_t_copy_0, x_t_copy_1, x_t_copy_4, x_t_copy_7, x_t_copy_8, x_t_copy_11, x_t_copy_14, x_t_copy_16, x_t_copy_17, x_t_copy_18, x_t_copy_21, x_t_copy_22, x_t_copy_23, x_t_copy_25, x_t_copy_26, x_t_copy_29, x_t_copy_30, x_t_copy_31, x_t_copy_33, x_t_copy_35, x_t_copy_38, x_t_copy_41, x_t_copy_43, x_t_copy_46, x_t_copy_49, x_t_copy_51, x_t_copy_52, x_t_copy_54, x_t_copy_57, x_t_copy_59, x_t_copy_62, x_t_copy_65, x_t_copy_67, x_t_copy_68, x_t_copy_70, x_t_copy_71, x_t_copy_73, x_t_copy_76, x_t_copy_79, x_t_copy_81, x_t_copy_83, x_t_copy_85, x_t_copy_88, x_t_copy_91, x_t_copy_93, x_t_copy_94, x_t_copy_96, x_t_copy_99, x_t_copy_100, x_t_copy_102, x_t_copy_105, x_t_copy_107, x_t_copy_109, x_t_copy_112, x_t_copy_114, sp_t_isSheet, XK_s, b01_eq0, eq_true p1, eq_false p2, not_true_eq_false, not_false_eq_true, if_false, if_true]
      exact fin
    · simp (disch := first | assumption | omega) only [e_t_copy, x_t_copy_0, x_t_copy_1, x_t_copy_4, x_t_copy_7, x_t_copy_8, x_t_copy_11, x_t_copy_14, x_t_copy_16, x_t_copy_17, x_t_copy_18, x_t_copy_21, x_t_copy_22, x_t_copy_23, x_t_copy_25, x_t_copy_26, x_t_copy_29, x_t_copy_30, x_t_copy_31, x_t_copy_33, x_t_copy_35, x_t_copy_38, x_t_copy_41, x_t_copy_43, x_t_copy_46, x_t_copy_49, x_t_copy_51, x_t_copy_52, x_t_copy_54, x_t_copy_57, x_t_copy_59, x_t_copy_62, x_t_copy_65, x_t_copy_67, x_t_copy_68, x_t_copy_70, x_t_copy_71, x_t_copy_73, x_t_copy_76, x_t_copy_79, x_t_copy_81, x_t_copy_83, x_t_copy_85, x_t_copy_88, x_t_copy_91, x_t_copy_93, x_t_copy_94, x_t_copy_96, x_t_copy_99, x_t_copy_100, x_t_copy_102, x_t_copy_105, x_t_copy_107, x_t_copy_109, x_t_copy_112, x_t_copy_114, sp_t_isSheet, XK_s, b01_eq0, eq_false p1, not_false_eq_true, if_true]
      exact fin
end PAIR9
