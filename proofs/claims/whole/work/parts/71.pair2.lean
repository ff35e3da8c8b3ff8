section PAIR2
variable {d t : Nat} {iv : mI} {jv : mJ} {G : Nat → Nat}
theorem ST_it {k a h s : Nat} (hT : ST t G) (hk : k ≤ 5) (ha : a ≤ 2) (hh : h ≤ 8) (hs : s ≤ 3) (h29 : G 29 < 8) : ST t (itG G k a h s) := by
  obtain ⟨b1, b2, c, e, f, g, h'⟩ := hT
  have b36 := b1.2.1
  have u : ∀ j, (j < 37 ∨ 85 ≤ j) → j ≠ 29 → j ≠ 35 → itG G k a h s j = G j := fun j h1 h2 h3 => itG_ne h2 h3 (by omega)
  refine ⟨IB_it b1 hk ha hh hs h29, fun j hj => ?_, ?_, ?_, fun hon => ?_, fun i hi => ?_, ?_⟩
  · rw [u 36 (by omega) (by omega) (by omega)] at hj
    rw [u _ (by omega) (by omega) (by omega), itG_29]
    refine ⟨Nat.lt_succ_of_lt (b2 j hj).1, fun j' hj' => ?_⟩
    rw [u _ (by omega) (by omega) (by omega)]; exact (b2 j hj).2 j' hj'
  · obtain ⟨l, hl, h0⟩ := c
    exact ⟨l, hl, by rw [u _ (by omega) (by omega) (by omega)]; exact h0⟩
  · obtain ⟨l, hl, h0⟩ := e
    refine ⟨l, hl, ?_⟩
    rw [wt_0, u _ (by omega) (by omega) (by omega), u _ (by omega) (by omega) (by omega), u _ (by omega) (by omega) (by omega)]; exact h0
  · rw [u 34 (by omega) (by omega) (by omega)] at hon
    rw [u 36 (by omega) (by omega) (by omega), itG_35, if_neg hon]
    exact f hon
  · by_cases ei : i = G 29
    · subst ei
      have := (itG_at G k a h s).2.2.2.2.2
      rw [show 42 + 6 * G 29 = 37 + 6 * G 29 + 5 from by omega, this]; omega
    · rw [itG_ne (by omega) (by omega) (by omega)]; exact g i hi
  · rw [u _ (by omega) (by omega) (by omega)]; exact h'
theorem pr_item (hI : INV t iv jv) (x y z w : Int32) : XM (d + 12) Yt_item [.ref 0, .int x, .int y, .int z, .int w] iv jv (Q1 (d + 12) t Ym_item [.ref 118, .int x, .int y, .int z, .int w]) := by
  obtain ⟨G, hT, hC, hG, hM, hS⟩ := hI
  have hB := hT.1
  by_cases h : isS x y z w
  · obtain ⟨⟨h1, h2⟩, h3, h4⟩ := id h
    obtain ⟨k, hk, rfl⟩ := nat8 (m := 5) (x := x) h1 (by decide)
    obtain ⟨a, ha, rfl⟩ := nat8 (m := 2) (x := y) h2 (by decide)
    obtain ⟨hh, hhh, rfl⟩ := nat8 (m := 8) (x := z) h3 (by decide)
    obtain ⟨s, hs, rfl⟩ := nat8 (m := 3) (x := w) ⟨by omega, h4.2⟩ (by decide)
    rw [nI_toI (k := s) (by omega)] at h4
    have hs1 : 1 ≤ s := by omega
    simp (disch := first | assumption | omega) only [e_t_item, x_t_item_0, x_t_item_1, x_t_item_4, x_t_item_5, x_t_item_6, x_t_item_7, x_t_item_9, x_t_item_12]
    by_cases p : G 29 = 8
    · rw [sp_o_addItem_full (d := d + 7) hk ha hhh hs1 hs isB1 hC.1 p]
      simp (disch := first | assumption | omega) only [XK_s, x_t_item_0, x_t_item_1, x_t_item_4, x_t_item_5, x_t_item_6, x_t_item_7, x_t_item_9, x_t_item_12]
      refine Q1_i (sp_m_item (d := d + 9) hk ha hhh hs1 hs hG hB (fun _ => Q2_i (INV_r hT hC hG hM hS)) (fun e => absurd p (by omega)))
    · have b1 := hB.1
      have h8 : G 29 < 8 := by omega
      refine sp_o_addItem (d := d + 7) hk ha hhh hs1 hs isB1 hC hB hT.2.1 h8 (fun e => (hT.2.2.2.2.1 e).2) (fun iv1 hF hC1 => ?_)
      simp (disch := first | assumption | omega) only [XK_s, x_t_item_0, x_t_item_1, x_t_item_4, x_t_item_5, x_t_item_6, x_t_item_7, x_t_item_9, x_t_item_12]
      refine Q1_i (sp_m_item (d := d + 9) hk ha hhh hs1 hs (FX_G (FX_1 hF) hG) hB (fun e => absurd e p) (fun _ jv2 hG2 hF2 => Q2_i (INV_mk hM hS (FX_1 hF) hC1 (FW_9 hF2) hG2 (ST_s (ST_it hT hk ha hhh hs h8)))))
  · simp (disch := first | assumption | omega) only [e_t_item, x_t_item_0, x_t_item_1, x_t_item_4, x_t_item_5, x_t_item_6, x_t_item_7, x_t_item_9, x_t_item_12, sp_o_addItem_bad h, XK_s]
    refine Q1_i ?_
    rw [sp_m_item_bad (d := d + 9) h]
    exact Q2_i (INV_r hT hC hG hM hS)
/-! ease -/
theorem ST_ease {i v : Nat} (hT : ST t G) (hi : i < 8) (hv : v ≤ 10) : ST t (up G (37 + 6 * i + 4) v) := by
  obtain ⟨hB, b, c, e, f, g, h⟩ := hT
  have u : ∀ j, j ≠ 37 + 6 * i + 4 → up G (37 + 6 * i + 4) v j = G j := fun j h => up_ne h
  have b36 := hB.2.1
  refine ⟨?_, fun j hj => ?_, ?_, ?_, ?_, fun i' hi' => ?_, ?_⟩
  · obtain ⟨b1, b2, b3, b4, b5, b6, b7, b8, b9, b10, b11, b12, b13⟩ := hB
    refine ⟨?_, ?_, ?_, ?_, ?_, ?_, ?_, ?_, ?_, ?_, ?_, ?_, ?_⟩
    · rw [u _ (by omega)]; exact b1
    · rw [u _ (by omega)]; exact b2
    · rw [u _ (by omega)]; exact b3
    · intro i' hi'
      have := b4 i' hi'
      rw [u _ (by omega), u _ (by omega), u _ (by omega), u _ (by omega), u (37 + 6 * i' + 5) (by omega)]
      by_cases e : i' = i
      · subst e; rw [up_at]; omega
      · rw [u _ (by omega)]; exact this
    · intro k hk
      rw [u _ (by omega), u _ (by omega)]; exact b5 k hk
    · intro l hl; rw [u _ (by omega)]; exact b6 l hl
    · intro a ha; rw [u _ (by omega), u _ (by omega)]; exact b7 a ha
    · intro r hr; rw [u _ (by omega)]; exact b8 r hr
    · rw [u _ (by omega)]; exact b9
    · rw [u _ (by omega)]; exact b10
    · rw [u _ (by omega)]; exact b11
    · rw [u _ (by omega)]; exact b12
    · rw [u _ (by omega)]; exact b13
  · rw [u 36 (by omega)] at hj
    rw [u _ (by omega), u 29 (by omega)]
    refine ⟨(b j hj).1, fun j' hj' => ?_⟩
    rw [u _ (by omega)]; exact (b j hj).2 j' hj'
  · obtain ⟨l, hl, h0⟩ := c
    exact ⟨l, hl, by rw [u _ (by omega)]; exact h0⟩
  · obtain ⟨l, hl, h0⟩ := e
    refine ⟨l, hl, ?_⟩
    rw [wt_0, u _ (by omega), u _ (by omega), u _ (by omega)]; exact h0
  · rw [u 34 (by omega), u 35 (by omega), u 36 (by omega)]; exact f
  · rw [u _ (by omega)]; exact g i' hi'
  · rw [u _ (by omega)]; exact h
theorem pr_ease (hI : INV t iv jv) (x y : Int32) : XM (d + 12) Yt_ease [.ref 0, .int x, .int y] iv jv (Q1 (d + 12) t Ym_ease [.ref 118, .int x, .int y]) := by
  obtain ⟨G, hT, hC, hG, hM, hS⟩ := hI
  have hB := hT.1
  by_cases h : isE G x y
  · obtain ⟨i, hi, hi8, rfl⟩ := natIt hB h.1
    obtain ⟨v, hv, rfl⟩ := nat8 (m := 10) (x := y) h.2 (by decide)
    obtain ⟨cf, cp, ca, cb, cw, ck, ci⟩ := cr1 hC
    obtain ⟨t0, t1, t2⟩ := sI1 hi8
    have f4 := (ci i hi).1.2.2.2.2.1
    simp (disch := first | assumption | omega) only [e_t_ease, x_t_ease_0, x_t_ease_1, x_t_ease_4, x_t_ease_5, x_t_ease_8, x_t_ease_11, x_t_ease_12, x_t_ease_13, x_t_ease_15, x_t_ease_18, x_t_ease_21, x_t_ease_23, x_t_ease_24, x_t_ease_25, x_t_ease_28, x_t_ease_31, x_t_ease_32, x_t_ease_33, x_t_ease_36, x_t_ease_37, x_t_ease_38, x_t_ease_41, x_t_ease_44, x_t_ease_45, x_t_ease_46, x_t_ease_47, x_t_ease_50, x_t_ease_51, sp_oIN (d := d + 9) (show i < 2147483648 from by omega) isB1 hC.1 hB, sp_withinN, XK_s, b01_eq0, hi, hv, Nat.zero_le, and_self, not_true_eq_false, if_false, q_in, q_tn, true_and, t0, f4]
    refine Q1_i ?_
    rw [sp_m_ease (d := d + 9) hi hv hG hB]
    have u : ∀ j, j ≠ 37 + 6 * i + 4 → up G (37 + 6 * i + 4) v j = G j := fun j h => up_ne h
    have b1 := hB.1
    refine Q2_i (INV_mk (G' := up G (37 + 6 * i + 4) v) hM hS ⟨fun q k e => upi_ne (by omega), fun _ _ _ => rfl⟩ (CR_same (G := G) isB1 hC hB (fun l hl => u _ (by omega)) (u _ (by omega)) (fun j h1 h2 => u _ (by omega)) (fun i k h1 h2 h3 => u _ (by omega)) (fun j h1 => u _ (by omega)) (fun q k e1 e2 e3 e4 e5 => upi_ne (by omega)) ?_ ?_ ?_ (fun a' ha' => ⟨?_, ?_⟩) (fun r hr => ?_) (fun i' hi' => ?_)) (FW_9 (fun q k hq => upj_ne hq)) (RG_up hG _ _) (ST_s (ST_ease hT hi8 hv)))
    · rw [upi_ne (by omega), u _ (by omega)]; exact cf.1
    · rw [upi_ne (by omega), u _ (by omega)]; exact cf.2.1
    · rw [upi_ne (by omega), u _ (by omega)]; exact cf.2.2.1
    · rw [upi_ne (by omega), u _ (by omega)]; exact (ca a' ha').1
    · rw [upi_ne (by omega), u _ (by omega)]; exact (ca a' ha').2.1
    · rw [upi_ne (by omega), u _ (by omega)]; exact cb r hr
    · by_cases e : i' = i
      · subst e; rw [up_at]; exact upi_at _ _ _ _
      · rw [upi_ne (by omega), u _ (by omega)]; exact (ci i' hi').1.2.2.2.2.1
  · have fin : Q1 (d + 12) t Ym_ease [.ref 118, .int x, .int y] (some (.int (-2))) (mk iv jv) := by
      refine Q1_i ?_
      rw [sp_m_ease_bad (d := d + 9) hG hB h]
      exact Q2_i (INV_r hT hC hG hM hS)
    unfold isE isIt at h
    by_cases p1 : 0 ≤ x.toInt ∧ x.toInt < (G 29 : Int)
    · have p2 : ¬ (((0 : Nat) : Int) ≤ y.toInt ∧ y.toInt ≤ ((10 : Nat) : Int)) := by omega
      simp (disch := first | assumption | omega) only [e_t_ease, x_t_ease_0, x_t_ease_1, x_t_ease_4, x_t_ease_5, x_t_ease_8, x_t_ease_11, x_t_ease_12, x_t_ease_13, x_t_ease_15, x_t_ease_18, x_t_ease_21, x_t_ease_23, x_t_ease_24, x_t_ease_25, x_t_ease_28, x_t_ease_31, x_t_ease_32, x_t_ease_33, x_t_ease_36, x_t_ease_37, x_t_ease_38, x_t_ease_41, x_t_ease_44, x_t_ease_45, x_t_ease_46, x_t_ease_47, x_t_ease_50, x_t_ease_51, sp_o_isItem x isB1 hC.1 hB, sp_within, XK_s, b01_eq0, eq_true p1, eq_false p2, not_true_eq_false, not_false_eq_true, if_false, if_true]
      exact fin
    · simp (disch := first | assumption | omega) only [e_t_ease, x_t_ease_0, x_t_ease_1, x_t_ease_4, x_t_ease_5, x_t_ease_8, x_t_ease_11, x_t_ease_12, x_t_ease_13, x_t_ease_15, x_t_ease_18, x_t_ease_21, x_t_ease_23, x_t_ease_24, x_t_ease_25, x_t_ease_28, x_t_ease_31, x_t_ease_32, x_t_ease_33, x_t_ease_36, x_t_ease_37, x_t_ease_38, x_t_ease_41, x_t_ease_44, x_t_ease_45, x_t_ease_46, x_t_ease_47, x_t_ease_50, x_t_ease_51, sp_o_isItem x isB1 hC.1 hB, XK_s, b01_eq0, eq_false p1, not_false_eq_true, if_true]
      exact fin
/-! set, rules -/
theorem pr_rules (hI : INV t iv jv) (x : Int32) : XM (d + 12) Yt_rules [.ref 0, .int x] iv jv (Q1 (d + 12) t Ym_rules [.ref 118, .int x]) := by
  obtain ⟨G, hT, hC, hG, hM, hS⟩ := hI
  have hB := hT.1
  by_cases h : is31 x
  · obtain ⟨v, hv, rfl⟩ := nat8 (m := 31) (x := x) h (by decide)
    obtain ⟨cf, cp, ca, cb, cw, ck, ci⟩ := cr1 hC
    have f4 := cf.1
    simp (disch := first | assumption | omega) only [e_t_rules, x_t_rules_0, x_t_rules_1, x_t_rules_2, x_t_rules_4, x_t_rules_7, x_t_rules_10, x_t_rules_12, x_t_rules_13, x_t_rules_14, x_t_rules_17, x_t_rules_20, x_t_rules_21, x_t_rules_22, x_t_rules_25, x_t_rules_26, x_t_rules_29, x_t_rules_30, sp_withinN, XK_s, b01_eq0, hv, Nat.zero_le, and_self, not_true_eq_false, if_false, f4]
    refine Q1_i ?_
    rw [sp_m_rules (d := d + 9) hv hG]
    have hB2 : IB (up G 32 v) := IB_up hB ⟨by omega, by omega, by omega, by omega, by omega, fun _ => hv⟩ (by omega)
    have u : ∀ j, j ≠ 32 → up G 32 v j = G j := fun j h => up_ne h
    have b1 := hB.1
    refine Q2_i (INV_mk (G' := up G 32 v) hM hS ⟨fun q k e => upi_ne (by omega), fun _ _ _ => rfl⟩ (CR_same (G := G) isB1 hC hB (fun l hl => u _ (by omega)) (u _ (by omega)) (fun j h1 h2 => u _ (by omega)) (fun i k h1 h2 h3 => u _ (by omega)) (fun j h1 => u _ (by omega)) (fun q k e1 e2 e3 e4 e5 => upi_ne (by omega)) ?_ ?_ ?_ (fun a' ha' => ⟨?_, ?_⟩) (fun r hr => ?_) (fun i' hi' => ?_)) (FW_9 (fun q k hq => upj_ne hq)) (RG_up hG _ _) (ST_s (ST_up hT hB2 (by omega) (by omega))))
    · rw [up_at]; exact upi_at _ _ _ _
    · rw [upi_ne (by omega), u _ (by omega)]; exact cf.2.1
    · rw [upi_ne (by omega), u _ (by omega)]; exact cf.2.2.1
    · rw [upi_ne (by omega), u _ (by omega)]; exact (ca a' ha').1
    · rw [upi_ne (by omega), u _ (by omega)]; exact (ca a' ha').2.1
    · rw [upi_ne (by omega), u _ (by omega)]; exact cb r hr
    · rw [upi_ne (by omega), u _ (by omega)]; exact (ci i' hi').1.2.2.2.2.1
  · have p1 : ¬ (((0 : Nat) : Int) ≤ x.toInt ∧ x.toInt ≤ ((31 : Nat) : Int)) := h
    simp (disch := first | assumption | omega) only [e_t_rules, x_t_rules_0, x_t_rules_1, x_t_rules_2, x_t_rules_4, x_t_rules_7, x_t_rules_10, x_t_rules_12, x_t_rules_13, x_t_rules_14, x_t_rules_17, x_t_rules_20, x_t_rules_21, x_t_rules_22, x_t_rules_25, x_t_rules_26, x_t_rules_29, x_t_rules_30, sp_within, XK_s, b01_eq0, eq_false p1, not_false_eq_true, if_true]
    refine Q1_i ?_
    rw [sp_m_rules_bad (d := d + 9) h]
    exact Q2_i (INV_r hT hC hG hM hS)
theorem pr_set (hI : INV t iv jv) (x y : Int32) : XM (d + 12) Yt_set [.ref 0, .int x, .int y] iv jv (Q1 (d + 12) t Ym_set [.ref 118, .int x, .int y]) := by
  obtain ⟨G, hT, hC, hG, hM, hS⟩ := hI
  have hB := hT.1
  obtain ⟨cf, cp, ca, cb, cw, ck, ci⟩ := cr1 hC
  have f5 := cf.2.1
  have f6 := cf.2.2.1
  have b1 := hB.1
  by_cases h : isSet x y
  · rcases h with ⟨h1, h2, h3⟩ | ⟨h1, h2, h3⟩ | ⟨h1, h2, h3⟩
    · have ex : x = nI 0 := by rw [toI_eq x (by decide)]; exact h1
      subst ex
      obtain ⟨v, hv, rfl⟩ := nat8 (m := 8) (x := y) ⟨by omega, h3⟩ (by decide)
      rw [nI_toI (by omega)] at h2
      have hv1 : 1 ≤ v := by omega
      simp (disch := first | assumption | omega) only [e_t_set, x_t_set_0, x_t_set_2, x_t_set_3, x_t_set_4, x_t_set_7, x_t_set_8, x_t_set_9, x_t_set_11, x_t_set_14, x_t_set_17, x_t_set_18, x_t_set_21, x_t_set_24, x_t_set_25, x_t_set_26, x_t_set_29, x_t_set_30, x_t_set_33, x_t_set_36, x_t_set_37, x_t_set_38, x_t_set_41, x_t_set_42, x_t_set_43, x_t_set_45, x_t_set_48, x_t_set_51, x_t_set_52, x_t_set_55, x_t_set_58, x_t_set_59, x_t_set_60, x_t_set_63, x_t_set_64, x_t_set_67, x_t_set_70, x_t_set_71, x_t_set_73, x_t_set_75, x_t_set_78, x_t_set_81, x_t_set_82, x_t_set_83, x_t_set_85, x_t_set_88, x_t_set_91, x_t_set_92, x_t_set_95, x_t_set_98, x_t_set_99, x_t_set_101, x_t_set_102, x_t_set_103, x_t_set_104, x_t_set_105, x_t_set_108, x_t_set_111, x_t_set_112, x_t_set_114, x_t_set_115, x_t_set_116, x_t_set_117, x_t_set_118, sp_withinN, XK_s, b01_eq0, hv, hv1, and_self, not_true_eq_false, if_false, if_true, f5]
      refine Q1_i ?_
      rw [sp_m_set0 (d := d + 9) hv1 hv hG]
      have hB2 : IB (up G 30 v) := IB_up hB ⟨by omega, by omega, by omega, fun _ => ⟨hv1, hv⟩, by omega, by omega⟩ (by omega)
      have u : ∀ j, j ≠ 30 → up G 30 v j = G j := fun j h => up_ne h
      refine Q2_i (INV_mk (G' := up G 30 v) hM hS ⟨fun q k e => upi_ne (by omega), fun _ _ _ => rfl⟩ (CR_same (G := G) isB1 hC hB (fun l hl => u _ (by omega)) (u _ (by omega)) (fun j h1 h2 => u _ (by omega)) (fun i k h1 h2 h3 => u _ (by omega)) (fun j h1 => u _ (by omega)) (fun q k e1 e2 e3 e4 e5 => upi_ne (by omega)) ?_ ?_ ?_ (fun a' ha' => ⟨?_, ?_⟩) (fun r hr => ?_) (fun i' hi' => ?_)) (FW_9 (fun q k hq => upj_ne hq)) (RG_up hG _ _) (ST_s (ST_up hT hB2 (by omega) (by omega))))
      · rw [upi_ne (by omega), u _ (by omega)]; exact cf.1
      · rw [up_at]; exact upi_at _ _ _ _
      · rw [upi_ne (by omega), u _ (by omega)]; exact cf.2.2.1
      · rw [upi_ne (by omega), u _ (by omega)]; exact (ca a' ha').1
      · rw [upi_ne (by omega), u _ (by omega)]; exact (ca a' ha').2.1
      · rw [upi_ne (by omega), u _ (by omega)]; exact cb r hr
      · rw [upi_ne (by omega), u _ (by omega)]; exact (ci i' hi').1.2.2.2.2.1
    · have ex : x = nI 1 := by rw [toI_eq x (by decide)]; exact h1
      subst ex
      obtain ⟨v, hv, rfl⟩ := nat8 (m := 9) (x := y) ⟨by omega, h3⟩ (by decide)
      simp (disch := first | assumption | omega) only [e_t_set, x_t_set_0, x_t_set_2, x_t_set_3, x_t_set_4, x_t_set_7, x_t_set_8, x_t_set_9, x_t_set_11, x_t_set_14, x_t_set_17, x_t_set_18, x_t_set_21, x_t_set_24, x_t_set_25, x_t_set_26, x_t_set_29, x_t_set_30, x_t_set_33, x_t_set_36, x_t_set_37, x_t_set_38, x_t_set_41, x_t_set_42, x_t_set_43, x_t_set_45, x_t_set_48, x_t_set_51, x_t_set_52, x_t_set_55, x_t_set_58, x_t_set_59, x_t_set_60, x_t_set_63, x_t_set_64, x_t_set_67, x_t_set_70, x_t_set_71, x_t_set_73, x_t_set_75, x_t_set_78, x_t_set_81, x_t_set_82, x_t_set_83, x_t_set_85, x_t_set_88, x_t_set_91, x_t_set_92, x_t_set_95, x_t_set_98, x_t_set_99, x_t_set_101, x_t_set_102, x_t_set_103, x_t_set_104, x_t_set_105, x_t_set_108, x_t_set_111, x_t_set_112, x_t_set_114, x_t_set_115, x_t_set_116, x_t_set_117, x_t_set_118, sp_withinN, XK_s, b01_eq0, n10, hv, Nat.zero_le, and_self, not_true_eq_false, if_false, if_true, f6]
      refine Q1_i ?_
      rw [sp_m_set1 (d := d + 9) hv hG]
      have hB2 : IB (up G 31 v) := IB_up hB ⟨by omega, by omega, by omega, by omega, fun _ => hv, by omega⟩ (by omega)
      have u : ∀ j, j ≠ 31 → up G 31 v j = G j := fun j h => up_ne h
      refine Q2_i (INV_mk (G' := up G 31 v) hM hS ⟨fun q k e => upi_ne (by omega), fun _ _ _ => rfl⟩ (CR_same (G := G) isB1 hC hB (fun l hl => u _ (by omega)) (u _ (by omega)) (fun j h1 h2 => u _ (by omega)) (fun i k h1 h2 h3 => u _ (by omega)) (fun j h1 => u _ (by omega)) (fun q k e1 e2 e3 e4 e5 => upi_ne (by omega)) ?_ ?_ ?_ (fun a' ha' => ⟨?_, ?_⟩) (fun r hr => ?_) (fun i' hi' => ?_)) (FW_9 (fun q k hq => upj_ne hq)) (RG_up hG _ _) (ST_s (ST_up hT hB2 (by omega) (by omega))))
      · rw [upi_ne (by omega), u _ (by omega)]; exact cf.1
      · rw [upi_ne (by omega), u _ (by omega)]; exact cf.2.1
      · rw [up_at]; exact upi_at _ _ _ _
      · rw [upi_ne (by omega), u _ (by omega)]; exact (ca a' ha').1
      · rw [upi_ne (by omega), u _ (by omega)]; exact (ca a' ha').2.1
      · rw [upi_ne (by omega), u _ (by omega)]; exact cb r hr
      · rw [upi_ne (by omega), u _ (by omega)]; exact (ci i' hi').1.2.2.2.2.1
    · obtain ⟨m, hm, rfl⟩ := nat8 (m := 14) (x := x) ⟨by omega, h1.2⟩ (by decide)
      rw [nI_toI (by omega)] at h1
      obtain ⟨r, rfl⟩ : ∃ r, m = 10 + r := ⟨m - 10, by omega⟩
      have hr : r < 5 := by omega
      obtain ⟨v, hv, rfl⟩ := nat8 (m := 99) (x := y) ⟨h2, h3⟩ (by decide)
      have e0 : ¬ (10 + r = 0) := by omega
      have e1 : ¬ (10 + r = 1) := by omega
      have e2 : 10 ≤ 10 + r := by omega
      have e3 : 10 + r - 10 = r := by omega
      have fb := cb r hr
      simp (disch := first | assumption | omega) only [e_t_set, x_t_set_0, x_t_set_2, x_t_set_3, x_t_set_4, x_t_set_7, x_t_set_8, x_t_set_9, x_t_set_11, x_t_set_14, x_t_set_17, x_t_set_18, x_t_set_21, x_t_set_24, x_t_set_25, x_t_set_26, x_t_set_29, x_t_set_30, x_t_set_33, x_t_set_36, x_t_set_37, x_t_set_38, x_t_set_41, x_t_set_42, x_t_set_43, x_t_set_45, x_t_set_48, x_t_set_51, x_t_set_52, x_t_set_55, x_t_set_58, x_t_set_59, x_t_set_60, x_t_set_63, x_t_set_64, x_t_set_67, x_t_set_70, x_t_set_71, x_t_set_73, x_t_set_75, x_t_set_78, x_t_set_81, x_t_set_82, x_t_set_83, x_t_set_85, x_t_set_88, x_t_set_91, x_t_set_92, x_t_set_95, x_t_set_98, x_t_set_99, x_t_set_101, x_t_set_102, x_t_set_103, x_t_set_104, x_t_set_105, x_t_set_108, x_t_set_111, x_t_set_112, x_t_set_114, x_t_set_115, x_t_set_116, x_t_set_117, x_t_set_118, sp_withinN, XK_s, b01_eq0, q_eq, qn0, e0, e1, e2, hm, hv, Nat.zero_le, and_self, not_true_eq_false, if_false, if_true, q_sub, e3, q_in, q_tn, true_and, fb]
      refine Q1_i ?_
      rw [sp_m_set10 (d := d + 9) hr hv hG]
      have hB2 : IB (up G (24 + r) v) := IB_up hB ⟨by omega, by omega, fun _ _ => hv, by omega, by omega, by omega⟩ (by omega)
      have u : ∀ j, j ≠ 24 + r → up G (24 + r) v j = G j := fun j h => up_ne h
      refine Q2_i (INV_mk (G' := up G (24 + r) v) hM hS ⟨fun q k e => upi_ne (by omega), fun _ _ _ => rfl⟩ (CR_same (G := G) isB1 hC hB (fun l hl => u _ (by omega)) (u _ (by omega)) (fun j h1 h2 => u _ (by omega)) (fun i k h1 h2 h3 => u _ (by omega)) (fun j h1 => u _ (by omega)) (fun q k e1 e2 e3 e4 e5 => upi_ne (by omega)) ?_ ?_ ?_ (fun a' ha' => ⟨?_, ?_⟩) (fun r' hr' => ?_) (fun i' hi' => ?_)) (FW_9 (fun q k hq => upj_ne hq)) (RG_up hG _ _) (ST_s (ST_up hT hB2 (by omega) (by omega))))
      · rw [upi_ne (by omega), u _ (by omega)]; exact cf.1
      · rw [upi_ne (by omega), u _ (by omega)]; exact cf.2.1
      · rw [upi_ne (by omega), u _ (by omega)]; exact cf.2.2.1
      · rw [upi_ne (by omega), u _ (by omega)]; exact (ca a' ha').1
      · rw [upi_ne (by omega), u _ (by omega)]; exact (ca a' ha').2.1
      · by_cases e : r' = r
        · subst e; rw [up_at]; exact upi_at _ _ _ _
        · rw [upi_ne (by omega), u _ (by omega)]; exact cb r' hr'
      · rw [upi_ne (by omega), u _ (by omega)]; exact (ci i' hi').1.2.2.2.2.1
  · have fin : Q1 (d + 12) t Ym_set [.ref 118, .int x, .int y] (some (.int (-2))) (mk iv jv) := by
      refine Q1_i ?_
      rw [sp_m_set_bad (d := d + 9) h]
      exact Q2_i (INV_r hT hC hG hM hS)
    unfold isSet at h
    have e0 := toI_eq x (k := 0) (by decide)
    have e1 := toI_eq x (k := 1) (by decide)
    by_cases q0 : x.toInt = ((0 : Nat) : Int)
    · have p2 : ¬ (((1 : Nat) : Int) ≤ y.toInt ∧ y.toInt ≤ ((8 : Nat) : Int)) := by omega
      have q1 : ¬ (((0 : Nat) : Int) = ((1 : Nat) : Int)) := by omega
      have p3 : ¬ (((10 : Nat) : Int) ≤ ((0 : Nat) : Int) ∧ ((0 : Nat) : Int) ≤ ((14 : Nat) : Int)) := by omega
      simp (disch := first | assumption | omega) only [e_t_set, x_t_set_0, x_t_set_2, x_t_set_3, x_t_set_4, x_t_set_7, x_t_set_8, x_t_set_9, x_t_set_11, x_t_set_14, x_t_set_17, x_t_set_18, x_t_set_21, x_t_set_24, x_t_set_25, x_t_set_26, x_t_set_29, x_t_set_30, x_t_set_33, x_t_set_36, x_t_set_37, x_t_set_38, x_t_set_41, x_t_set_42, x_t_set_43, x_t_set_45, x_t_set_48, x_t_set_51, x_t_set_52, x_t_set_55, x_t_set_58, x_t_set_59, x_t_set_60, x_t_set_63, x_t_set_64, x_t_set_67, x_t_set_70, x_t_set_71, x_t_set_73, x_t_set_75, x_t_set_78, x_t_set_81, x_t_set_82, x_t_set_83, x_t_set_85, x_t_set_88, x_t_set_91, x_t_set_92, x_t_set_95, x_t_set_98, x_t_set_99, x_t_set_101, x_t_set_102, x_t_set_103, x_t_set_104, x_t_set_105, x_t_set_108, x_t_set_111, x_t_set_112, x_t_set_114, x_t_set_115, x_t_set_116, x_t_set_117, x_t_set_118, sp_within, XK_s, b01_eq0, e0, e1, q0, if_true, eq_false p2, q1, p3, not_false_eq_true, not_true_eq_false, if_false]
      exact fin
    · by_cases q1 : x.toInt = ((1 : Nat) : Int)
      · have p2 : ¬ (((0 : Nat) : Int) ≤ y.toInt ∧ y.toInt ≤ ((9 : Nat) : Int)) := by omega
        have q2 : ¬ (((1 : Nat) : Int) = ((0 : Nat) : Int)) := by omega
        have p3 : ¬ (((10 : Nat) : Int) ≤ ((1 : Nat) : Int) ∧ ((1 : Nat) : Int) ≤ ((14 : Nat) : Int)) := by omega
        simp (disch := first | assumption | omega) only [e_t_set, x_t_set_0, x_t_set_2, x_t_set_3, x_t_set_4, x_t_set_7, x_t_set_8, x_t_set_9, x_t_set_11, x_t_set_14, x_t_set_17, x_t_set_18, x_t_set_21, x_t_set_24, x_t_set_25, x_t_set_26, x_t_set_29, x_t_set_30, x_t_set_33, x_t_set_36, x_t_set_37, x_t_set_38, x_t_set_41, x_t_set_42, x_t_set_43, x_t_set_45, x_t_set_48, x_t_set_51, x_t_set_52, x_t_set_55, x_t_set_58, x_t_set_59, x_t_set_60, x_t_set_63, x_t_set_64, x_t_set_67, x_t_set_70, x_t_set_71, x_t_set_73, x_t_set_75, x_t_set_78, x_t_set_81, x_t_set_82, x_t_set_83, x_t_set_85, x_t_set_88, x_t_set_91, x_t_set_92, x_t_set_95, x_t_set_98, x_t_set_99, x_t_set_101, x_t_set_102, x_t_set_103, x_t_set_104, x_t_set_105, x_t_set_108, x_t_set_111, x_t_set_112, x_t_set_114, x_t_set_115, x_t_set_116, x_t_set_117, x_t_set_118, sp_within, XK_s, b01_eq0, e0, e1, q1, q2, if_true, eq_false p2, p3, not_false_eq_true, not_true_eq_false, if_false]
        exact fin
      · by_cases p3 : ((10 : Nat) : Int) ≤ x.toInt ∧ x.toInt ≤ ((14 : Nat) : Int)
        · have p2 : ¬ (((0 : Nat) : Int) ≤ y.toInt ∧ y.toInt ≤ ((99 : Nat) : Int)) := by omega
          simp (disch := first | assumption | omega) only [e_t_set, x_t_set_0, x_t_set_2, x_t_set_3, x_t_set_4, x_t_set_7, x_t_set_8, x_t_set_9, x_t_set_11, x_t_set_14, x_t_set_17, x_t_set_18, x_t_set_21, x_t_set_24, x_t_set_25, x_t_set_26, x_t_set_29, x_t_set_30, x_t_set_33, x_t_set_36, x_t_set_37, x_t_set_38, x_t_set_41, x_t_set_42, x_t_set_43, x_t_set_45, x_t_set_48, x_t_set_51, x_t_set_52, x_t_set_55, x_t_set_58, x_t_set_59, x_t_set_60, x_t_set_63, x_t_set_64, x_t_set_67, x_t_set_70, x_t_set_71, x_t_set_73, x_t_set_75, x_t_set_78, x_t_set_81, x_t_set_82, x_t_set_83, x_t_set_85, x_t_set_88, x_t_set_91, x_t_set_92, x_t_set_95, x_t_set_98, x_t_set_99, x_t_set_101, x_t_set_102, x_t_set_103, x_t_set_104, x_t_set_105, x_t_set_108, x_t_set_111, x_t_set_112, x_t_set_114, x_t_set_115, x_t_set_116, x_t_set_117, x_t_set_118, sp_within, XK_s, b01_eq0, e0, e1, eq_false q0, eq_false q1, if_true, eq_false p2, eq_true p3, not_false_eq_true, not_true_eq_false, if_false]
          exact fin
        · simp (disch := first | assumption | omega) only [e_t_set, x_t_set_0, x_t_set_2, x_t_set_3, x_t_set_4, x_t_set_7, x_t_set_8, x_t_set_9, x_t_set_11, x_t_set_14, x_t_set_17, x_t_set_18, x_t_set_21, x_t_set_24, x_t_set_25, x_t_set_26, x_t_set_29, x_t_set_30, x_t_set_33, x_t_set_36, x_t_set_37, x_t_set_38, x_t_set_41, x_t_set_42, x_t_set_43, x_t_set_45, x_t_set_48, x_t_set_51, x_t_set_52, x_t_set_55, x_t_set_58, x_t_set_59, x_t_set_60, x_t_set_63, x_t_set_64, x_t_set_67, x_t_set_70, x_t_set_71, x_t_set_73, x_t_set_75, x_t_set_78, x_t_set_81, x_t_set_82, x_t_set_83, x_t_set_85, x_t_set_88, x_t_set_91, x_t_set_92, x_t_set_95, x_t_set_98, x_t_set_99, x_t_set_101, x_t_set_102, x_t_set_103, x_t_set_104, x_t_set_105, x_t_set_108, x_t_set_111, x_t_set_112, x_t_set_114, x_t_set_115, x_t_set_116, x_t_set_117, x_t_set_118, sp_within, XK_s, b01_eq0, e0, e1, eq_false q0, eq_false q1, if_true, eq_false p3, not_false_eq_true, not_true_eq_false, if_false]
          exact fin
end PAIR2
