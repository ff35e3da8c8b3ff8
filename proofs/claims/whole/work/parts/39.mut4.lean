section MUT4
variable {d : Nat} {iv : mI} {jv : mJ} {Q : Option Value → mH → Prop} {G : Nat → Nat} {f : Nat → Nat}
/-! item -/
def isS (x y z w : Int32) : Prop := ((0 ≤ x.toInt ∧ x.toInt ≤ 5) ∧ 0 ≤ y.toInt ∧ y.toInt ≤ 2) ∧ (0 ≤ z.toInt ∧ z.toInt ≤ 8) ∧ 1 ≤ w.toInt ∧ w.toInt ≤ 3
theorem sp_isSuch_bad {x y z w : Int32} (h : ¬ isS x y z w) : XM (d + 2) Ym_isSuch [.long x.toInt64, .long y.toInt64, .long z.toInt64, .long w.toInt64] iv jv Q = Q (some (.int (nI 0))) (mk iv jv) := by
  unfold isS at h
  by_cases p1 : ((0 : Nat) : Int) ≤ x.toInt ∧ x.toInt ≤ ((5 : Nat) : Int) <;> by_cases p2 : ((0 : Nat) : Int) ≤ y.toInt ∧ y.toInt ≤ ((2 : Nat) : Int) <;> by_cases p3 : ((0 : Nat) : Int) ≤ z.toInt ∧ z.toInt ≤ ((8 : Nat) : Int) <;> by_cases p4 : ((1 : Nat) : Int) ≤ w.toInt ∧ w.toInt ≤ ((3 : Nat) : Int) <;>
  first
  | (exfalso; omega)
  | (simp (disch := first | assumption | omega) only [e_m_isSuch, x_m_isSuch_0, x_m_isSuch_1, x_m_isSuch_2, x_m_isSuch_5, x_m_isSuch_8, x_m_isSuch_11, x_m_isSuch_12, x_m_isSuch_13, x_m_isSuch_16, x_m_isSuch_19, x_m_isSuch_22, x_m_isSuch_24, x_m_isSuch_25, x_m_isSuch_28, x_m_isSuch_31, x_m_isSuch_34, x_m_isSuch_36, x_m_isSuch_37, x_m_isSuch_40, x_m_isSuch_43, x_m_isSuch_46, x_m_isSuch_47, x_m_isSuch_50, x_m_isSuch_51, sp_isInI, XK_s, b01_eq0, p1, p2, p3, p4, not_false_eq_true, not_true_eq_false, if_true, if_false, and_self, true_or, true_and, z01])
theorem sp_isSuch {k a h s : Nat} (hk : k ≤ 5) (ha : a ≤ 2) (hh : h ≤ 8) (hs1 : 1 ≤ s) (hs : s ≤ 3) : XM (d + 2) Ym_isSuch [.long (lN k), .long (lN a), .long (lN h), .long (lN s)] iv jv Q = Q (some (.int (nI 1))) (mk iv jv) := by
  simp (disch := first | assumption | omega) only [e_m_isSuch, x_m_isSuch_0, x_m_isSuch_1, x_m_isSuch_2, x_m_isSuch_5, x_m_isSuch_8, x_m_isSuch_11, x_m_isSuch_12, x_m_isSuch_13, x_m_isSuch_16, x_m_isSuch_19, x_m_isSuch_22, x_m_isSuch_24, x_m_isSuch_25, x_m_isSuch_28, x_m_isSuch_31, x_m_isSuch_34, x_m_isSuch_36, x_m_isSuch_37, x_m_isSuch_40, x_m_isSuch_43, x_m_isSuch_46, x_m_isSuch_47, x_m_isSuch_50, x_m_isSuch_51, sp_isInN, XK_s, b01_eq0, hk, ha, hh, hs1, hs, Nat.zero_le, not_false_eq_true, not_true_eq_false, if_true, if_false, and_self, or_true, true_and, z11]
def itG (G : Nat → Nat) (k a h s : Nat) : Nat → Nat := fun j => if j = 29 then G 29 + 1 else if j = 35 then (if G 34 = 1 then G 35 ||| 2 ^ G 29 else G 35) else if j = 37 + 6 * G 29 then k else if j = 37 + 6 * G 29 + 1 then a else if j = 37 + 6 * G 29 + 2 then h else if j = 37 + 6 * G 29 + 3 then s else if j = 37 + 6 * G 29 + 4 then 10 else if j = 37 + 6 * G 29 + 5 then 0 else G j
theorem sp_m_comes {k a h s : Nat} (hk : k ≤ 5) (ha : a ≤ 2) (hh : h ≤ 8) (hs : s ≤ 3) (h29 : G 29 < 8) (hG : ∀ k, k < 101 → jv 119 k = lN (G k)) (hB : IB G) (hQ : ∀ jv', (∀ j, j < 101 → jv' 119 j = lN (itG G k a h s j)) → (∀ q k, q ≠ 119 → jv' q k = jv q k) → Q (some (.int (nI (G 29)))) (mk iv jv')) : XM (d + 2) Ym_comes [.ref 118, .int (nI k), .int (nI a), .int (nI h), .int (nI s)] iv jv Q := by
  have b13 : G 34 ≤ 1 := hB.2.2.2.2.2.2.2.2.2.2.2.2
  have b35 := hB.2.2.1
  have g29 := hG 29 (by decide)
  have r1 := RG_up hG (37 + 6 * G 29 + 0) k
  have r2 := RG_up r1 (37 + 6 * G 29 + 1) a
  have r3 := RG_up r2 (37 + 6 * G 29 + 2) h
  have r4 := RG_up r3 (37 + 6 * G 29 + 3) s
  have r5 := RG_up r4 (37 + 6 * G 29 + 4) 10
  have r6 := RG_up r5 (37 + 6 * G 29 + 5) 0
  have r7 := RG_up r6 29 (G 29 + 1)
  have r8 := RG_up r7 35 (G 35 ||| 2 ^ G 29)
  have v29 := r6 29 (by decide)
  rw [up_ne (by omega), up_ne (by omega), up_ne (by omega), up_ne (by omega), up_ne (by omega), up_ne (by omega)] at v29
  have v34 := r7 34 (by decide)
  rw [up_ne (by omega), up_ne (by omega), up_ne (by omega), up_ne (by omega), up_ne (by omega), up_ne (by omega), up_ne (by omega)] at v34
  have v35 := r7 35 (by decide)
  rw [up_ne (by omega), up_ne (by omega), up_ne (by omega), up_ne (by omega), up_ne (by omega), up_ne (by omega), up_ne (by omega)] at v35
  have hor := bit_orL (G 35) b35 (G 29) h29
  rw [q_i2l (by omega)] at hor
  have key : ∀ j, (if j = 35 then (if G 34 = 1 then G 35 ||| 2 ^ G 29 else G 35) else up (up (up (up (up (up (up G (37 + 6 * G 29 + 0) k) (37 + 6 * G 29 + 1) a) (37 + 6 * G 29 + 2) h) (37 + 6 * G 29 + 3) s) (37 + 6 * G 29 + 4) 10) (37 + 6 * G 29 + 5) 0) 29 (G 29 + 1) j) = itG G k a h s j := by
    intro j
    unfold itG
    by_cases e0 : j = 29
    · subst e0; rw [if_neg (by decide), up_at, if_pos rfl]
    · rw [if_neg e0, up_ne e0]
      by_cases e1 : j = 35
      · rw [if_pos e1, if_pos e1]
      · rw [if_neg e1, if_neg e1]
        unfold up
        by_cases c0 : j = 37 + 6 * G 29
        · subst c0; simp
        · by_cases c1' : j = 37 + 6 * G 29 + 1
          · subst c1'; simp
          · by_cases c2 : j = 37 + 6 * G 29 + 2
            · subst c2; simp
            · by_cases c3 : j = 37 + 6 * G 29 + 3
              · subst c3; simp
              · by_cases c4 : j = 37 + 6 * G 29 + 4
                · subst c4; simp
                · by_cases c5 : j = 37 + 6 * G 29 + 5
                  · subst c5; simp
                  · simp [c0, c1', c2, c3, c4, c5]
  have on := fun Q : Option Value → mH → Prop => sp_m_isOn (d := d) (iv := iv) (Q := Q) v34 b13
  by_cases p : G 34 = 1
  · simp (disch := first | assumption | omega) only [e_m_comes, x_m_comes_0, x_m_comes_1, x_m_comes_3, x_m_comes_6, x_m_comes_8, x_m_comes_10, x_m_comes_12, x_m_comes_14, x_m_comes_15, x_m_comes_16, x_m_comes_18, x_m_comes_19, x_m_comes_22, x_m_comes_24, x_m_comes_25, x_m_comes_26, x_m_comes_27, x_m_comes_28, x_m_comes_29, x_m_comes_30, x_m_comes_33, x_m_comes_35, x_m_comes_36, x_m_comes_37, x_m_comes_38, x_m_comes_39, x_m_comes_40, x_m_comes_41, x_m_comes_44, x_m_comes_46, x_m_comes_47, x_m_comes_48, x_m_comes_49, x_m_comes_50, x_m_comes_51, x_m_comes_52, x_m_comes_55, x_m_comes_57, x_m_comes_58, x_m_comes_59, x_m_comes_61, x_m_comes_62, x_m_comes_63, x_m_comes_64, x_m_comes_67, x_m_comes_69, x_m_comes_70, x_m_comes_71, x_m_comes_74, x_m_comes_75, x_m_comes_76, x_m_comes_79, x_m_comes_81, x_m_comes_82, x_m_comes_83, x_m_comes_84, x_m_comes_85, x_m_comes_86, x_m_comes_89, x_m_comes_91, x_m_comes_92, x_m_comes_93, x_m_comes_94, x_m_comes_95, x_m_comes_96, x_m_comes_97, x_m_comes_100, x_m_comes_103, x_m_comes_104, x_m_comes_107, x_m_comes_109, x_m_comes_110, x_m_comes_111, x_m_comes_112, x_m_comes_114, x_m_comes_115, x_m_comes_116, x_m_comes_117, x_m_comes_119, sp_m_get, g29, XK_s, q_l2i, q_mul, q_add, q_in, q_tn, true_and, q_i2l, q_ladd, v29, on, b01_eq0, p, not_true_eq_false, if_false, v35, hor]
    refine hQ _ (fun j hj => ?_) (fun q k hq => ?_)
    · rw [r8 j hj, ← key j]
      unfold up
      by_cases e1 : j = 35
      · rw [if_pos e1, if_pos e1, if_pos p]
      · rw [if_neg e1, if_neg e1]
    · rw [upj_ne hq, upj_ne hq, upj_ne hq, upj_ne hq, upj_ne hq, upj_ne hq, upj_ne hq, upj_ne hq]
  · simp (disch := first | assumption | omega) only [e_m_comes, x_m_comes_0, x_m_comes_1, x_m_comes_3, x_m_comes_6, x_m_comes_8, x_m_comes_10, x_m_comes_12, x_m_comes_14, x_m_comes_15, x_m_comes_16, x_m_comes_18, x_m_comes_19, x_m_comes_22, x_m_comes_24, x_m_comes_25, x_m_comes_26, x_m_comes_27, x_m_comes_28, x_m_comes_29, x_m_comes_30, x_m_comes_33, x_m_comes_35, x_m_comes_36, x_m_comes_37, x_m_comes_38, x_m_comes_39, x_m_comes_40, x_m_comes_41, x_m_comes_44, x_m_comes_46, x_m_comes_47, x_m_comes_48, x_m_comes_49, x_m_comes_50, x_m_comes_51, x_m_comes_52, x_m_comes_55, x_m_comes_57, x_m_comes_58, x_m_comes_59, x_m_comes_61, x_m_comes_62, x_m_comes_63, x_m_comes_64, x_m_comes_67, x_m_comes_69, x_m_comes_70, x_m_comes_71, x_m_comes_74, x_m_comes_75, x_m_comes_76, x_m_comes_79, x_m_comes_81, x_m_comes_82, x_m_comes_83, x_m_comes_84, x_m_comes_85, x_m_comes_86, x_m_comes_89, x_m_comes_91, x_m_comes_92, x_m_comes_93, x_m_comes_94, x_m_comes_95, x_m_comes_96, x_m_comes_97, x_m_comes_100, x_m_comes_103, x_m_comes_104, x_m_comes_107, x_m_comes_109, x_m_comes_110, x_m_comes_111, x_m_comes_112, x_m_comes_114, x_m_comes_115, x_m_comes_116, x_m_comes_117, x_m_comes_119, sp_m_get, g29, XK_s, q_l2i, q_mul, q_add, q_in, q_tn, true_and, q_i2l, q_ladd, v29, on, b01_eq0, p, not_false_eq_true, if_true]
    refine hQ _ (fun j hj => ?_) (fun q k hq => ?_)
    · rw [r7 j hj, ← key j]
      by_cases e1 : j = 35
      · subst e1
        rw [if_pos rfl, if_neg p, up_ne (by omega), up_ne (by omega), up_ne (by omega), up_ne (by omega), up_ne (by omega), up_ne (by omega), up_ne (by omega)]
      · rw [if_neg e1]
    · rw [upj_ne hq, upj_ne hq, upj_ne hq, upj_ne hq, upj_ne hq, upj_ne hq, upj_ne hq]
theorem sp_m_item_bad {x y z w : Int32} (h : ¬ isS x y z w) : XM (d + 3) Ym_item [.ref 118, .int x, .int y, .int z, .int w] iv jv Q = Q (some (.int (-2))) (mk iv jv) := by
  simp only [e_m_item, x_m_item_0, x_m_item_1, x_m_item_2, x_m_item_3, x_m_item_4, x_m_item_5, x_m_item_6, x_m_item_8, x_m_item_9, x_m_item_12, x_m_item_15, x_m_item_17, x_m_item_18, x_m_item_19, x_m_item_22, x_m_item_24, x_m_item_25, x_m_item_28, x_m_item_29, x_m_item_32, x_m_item_34, x_m_item_37, x_m_item_38, x_m_item_39, x_m_item_40, x_m_item_41, x_m_item_43, x_m_item_46, sp_isSuch_bad h, XK_s, if_true]
theorem sp_m_item {k a h s : Nat} (hk : k ≤ 5) (ha : a ≤ 2) (hh : h ≤ 8) (hs1 : 1 ≤ s) (hs : s ≤ 3) (hG : ∀ k, k < 101 → jv 119 k = lN (G k)) (hB : IB G) (h0 : G 29 = 8 → Q (some (.int (-4))) (mk iv jv)) (hQ : G 29 < 8 → ∀ jv', (∀ j, j < 101 → jv' 119 j = lN (itG G k a h s j)) → (∀ q k, q ≠ 119 → jv' q k = jv q k) → Q (some (.int (nI (G 29)))) (mk iv jv')) : XM (d + 3) Ym_item [.ref 118, .int (nI k), .int (nI a), .int (nI h), .int (nI s)] iv jv Q := by
  have g29 := hG 29 (by decide)
  have b1 := hB.1
  by_cases p : G 29 = 8
  · have h0 := h0 p
    simp (disch := first | assumption | omega) only [e_m_item, x_m_item_0, x_m_item_1, x_m_item_2, x_m_item_3, x_m_item_4, x_m_item_5, x_m_item_6, x_m_item_8, x_m_item_9, x_m_item_12, x_m_item_15, x_m_item_17, x_m_item_18, x_m_item_19, x_m_item_22, x_m_item_24, x_m_item_25, x_m_item_28, x_m_item_29, x_m_item_32, x_m_item_34, x_m_item_37, x_m_item_38, x_m_item_39, x_m_item_40, x_m_item_41, x_m_item_43, x_m_item_46, q_i2l, sp_isSuch, XK_s, n10, if_false, q_in, q_tn, true_and, g29, c_eq, q_leq, p, if_true]
    exact h0
  · have p' : G 29 < 8 := by omega
    simp (disch := first | assumption | omega) only [e_m_item, x_m_item_0, x_m_item_1, x_m_item_2, x_m_item_3, x_m_item_4, x_m_item_5, x_m_item_6, x_m_item_8, x_m_item_9, x_m_item_12, x_m_item_15, x_m_item_17, x_m_item_18, x_m_item_19, x_m_item_22, x_m_item_24, x_m_item_25, x_m_item_28, x_m_item_29, x_m_item_32, x_m_item_34, x_m_item_37, x_m_item_38, x_m_item_39, x_m_item_40, x_m_item_41, x_m_item_43, x_m_item_46, q_i2l, sp_isSuch, XK_s, n10, if_false, q_in, q_tn, true_and, g29, c_eq, q_leq, p]
    refine sp_m_comes hk ha hh hs p' hG hB (fun jv' hG' hF => ?_)
    simp only [XK_s, x_m_item_0, x_m_item_1, x_m_item_2, x_m_item_3, x_m_item_4, x_m_item_5, x_m_item_6, x_m_item_8, x_m_item_9, x_m_item_12, x_m_item_15, x_m_item_17, x_m_item_18, x_m_item_19, x_m_item_22, x_m_item_24, x_m_item_25, x_m_item_28, x_m_item_29, x_m_item_32, x_m_item_34, x_m_item_37, x_m_item_38, x_m_item_39, x_m_item_40, x_m_item_41, x_m_item_43, x_m_item_46]
    exact hQ p' jv' hG' hF
/-! image, back -/
theorem copy_fin2 : (shp 120).1 = 17 ∧ (shp 120).2 = 101 := by decide
theorem sp_m_image (hG : ∀ k, k < 101 → jv 119 k = lN (G k)) : XM (d + 2) Ym_image [.ref 118] iv jv Q = Q (some (.int (nI (G 29)))) (mk (upi iv 118 3 (nI 1)) (cpG jv 119 120 101)) := by
  obtain ⟨s1, s2, s3, s4⟩ := copy_fin
  have hc := fun Q : Option Value → mH → Prop => sp_m_copies (d := d) (iv := iv) (jv := jv) (Q := Q) (a := 119) (b := 120) (by decide) ⟨s1, s2⟩ copy_fin2
  have g29 : cpG jv 119 120 101 119 29 = lN (G 29) := by rw [cpG_ne (by decide)]; exact hG 29 (by decide)
  simp (disch := first | assumption | omega) only [e_m_image, x_m_image_0, x_m_image_1, x_m_image_4, x_m_image_5, x_m_image_8, x_m_image_11, x_m_image_12, x_m_image_13, x_m_image_16, x_m_image_17, x_m_image_19, x_m_image_22, hc, XK_n, XK_s, sp_m_get, g29, q_l2i, z11, or_true, true_and]
theorem sp_m_back {K : Nat → Nat} (hK : ∀ k, k < 101 → jv 120 k = lN (K k)) : XM (d + 2) Ym_back [.ref 118] iv jv Q = if iv 118 3 = nI 0 then Q (some (.int (-3))) (mk iv jv) else Q (some (.int (nI (K 29)))) (mk iv (cpG jv 120 119 101)) := by
  obtain ⟨s1, s2, s3, s4⟩ := copy_fin
  have hc := fun Q : Option Value → mH → Prop => sp_m_copies (d := d) (iv := iv) (jv := jv) (Q := Q) (a := 120) (b := 119) (by decide) copy_fin2 ⟨s1, s2⟩
  have g29 : cpG jv 120 119 101 119 29 = lN (K 29) := by rw [cpG_at (by decide)]; exact hK 29 (by decide)
  by_cases h : iv 118 3 = nI 0
  · simp (disch := first | assumption | omega) only [e_m_back, x_m_back_0, x_m_back_1, x_m_back_4, x_m_back_7, x_m_back_9, x_m_back_10, x_m_back_11, x_m_back_14, x_m_back_15, x_m_back_18, x_m_back_21, x_m_back_22, x_m_back_24, x_m_back_27, h, if_true]
  · simp (disch := first | assumption | omega) only [e_m_back, x_m_back_0, x_m_back_1, x_m_back_4, x_m_back_7, x_m_back_9, x_m_back_10, x_m_back_11, x_m_back_14, x_m_back_15, x_m_back_18, x_m_back_21, x_m_back_22, x_m_back_24, x_m_back_27, h, if_false, hc, XK_n, XK_s, sp_m_get, g29, q_l2i]
end MUT4
