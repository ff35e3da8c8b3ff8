section PAIR6
variable {d t : Nat} {iv : mI} {jv : mJ} {G : Nat → Nat} {B : Nat} {Q : Option Value → mH → Prop}
theorem FX_12 {iv : mI} {jv jv1 : mJ} (h : ∀ q k, q ≠ 1 + 11 → jv1 q k = jv q k) : FX iv jv iv jv1 := ⟨fun _ _ _ => rfl, fun q k e => h q k (by omega)⟩
theorem pr_shadow (hI : INV t iv jv) : XM (d + 12) Yt_shadow [.ref 0] iv jv (Q1 (d + 12) t Ym_shadow [.ref 118]) := by
  obtain ⟨G, hT, hC, hG, hM, hS⟩ := hI
  have hB := hT.1
  have b34 : G 34 ≤ 1 := hB.2.2.2.2.2.2.2.2.2.2.2.2
  have f11 := hC.1.2.2.2.2.2.1
  by_cases p : G 34 = 1
  · have p0 : ¬ G 34 = 0 := by omega
    simp (disch := first | assumption | omega) only [e_t_shadow, x_t_shadow_0, x_t_shadow_1, x_t_shadow_4, x_t_shadow_7, x_t_shadow_10, x_t_shadow_11, x_t_shadow_14, x_t_shadow_17, x_t_shadow_20, x_t_shadow_22, f11, qn0, p0, if_false]
    refine sp_o_bestTest (d := d + 8) isB1 hC hB hT.2.1 (fun jv1 h1 _ => ?_)
    simp (disch := first | assumption | omega) only [XK_s, x_t_shadow_0, x_t_shadow_1, x_t_shadow_4, x_t_shadow_7, x_t_shadow_10, x_t_shadow_11, x_t_shadow_14, x_t_shadow_17, x_t_shadow_20, x_t_shadow_22]
    have hX := FX_12 (iv := iv) h1
    refine Q1_i (sp_m_shadow (d := d + 4) (FX_G hX hG) hB hT.2.2.2.1 (fun iv2 jv2 hF2 => ?_))
    rw [if_pos p]
    exact Q2_i (INV_mk hM hS hX (CR_11 hC h1) (FW_FR hF2) (FR_G hF2 (FX_G hX hG)) (ST_s hT))
  · have p0 : G 34 = 0 := by omega
    simp (disch := first | assumption | omega) only [e_t_shadow, x_t_shadow_0, x_t_shadow_1, x_t_shadow_4, x_t_shadow_7, x_t_shadow_10, x_t_shadow_11, x_t_shadow_14, x_t_shadow_17, x_t_shadow_20, x_t_shadow_22, f11, qn0, p0, if_true]
    refine Q1_i (sp_m_shadow (d := d + 4) hG hB hT.2.2.2.1 (fun iv2 jv2 hF2 => ?_))
    rw [if_neg p]
    exact Q2_i (INV_mk hM hS (FX_r _ _) hC (FW_FR hF2) (FR_G hF2 hG) (ST_s hT))
theorem pr_next (hI : INV t iv jv) : XM (d + 12) Yt_next [.ref 0] iv jv (Q1 (d + 12) t Ym_next [.ref 118]) := by
  obtain ⟨G, hT, hC, hG, hM, hS⟩ := hI
  have hB := hT.1
  have b34 : G 34 ≤ 1 := hB.2.2.2.2.2.2.2.2.2.2.2.2
  have f11 := hC.1.2.2.2.2.2.1
  by_cases p : G 34 = 1
  · have p0 : ¬ G 34 = 0 := by omega
    simp (disch := first | assumption | omega) only [e_t_next, x_t_next_0, x_t_next_1, x_t_next_4, x_t_next_7, x_t_next_10, x_t_next_11, x_t_next_14, x_t_next_17, x_t_next_20, x_t_next_22, f11, qn0, p0, if_false]
    refine sp_o_bestItem (d := d + 7) isB1 hC hB hT.2.1 (fun jv1 h1 => ?_)
    simp (disch := first | assumption | omega) only [XK_s, x_t_next_0, x_t_next_1, x_t_next_4, x_t_next_7, x_t_next_10, x_t_next_11, x_t_next_14, x_t_next_17, x_t_next_20, x_t_next_22]
    have hX := FX_12 (iv := iv) h1
    refine Q1_i (sp_m_next (d := d + 3) (FX_G hX hG) hB hT.2.2.2.1 (fun iv2 jv2 hF2 => ?_))
    rw [if_pos p]
    exact Q2_i (INV_mk hM hS hX (CR_11 hC h1) (FW_FR hF2) (FR_G hF2 (FX_G hX hG)) (ST_s hT))
  · have p0 : G 34 = 0 := by omega
    simp (disch := first | assumption | omega) only [e_t_next, x_t_next_0, x_t_next_1, x_t_next_4, x_t_next_7, x_t_next_10, x_t_next_11, x_t_next_14, x_t_next_17, x_t_next_20, x_t_next_22, f11, qn0, p0, if_true]
    refine Q1_i (sp_m_next (d := d + 3) hG hB hT.2.2.2.1 (fun iv2 jv2 hF2 => ?_))
    rw [if_neg p]
    exact Q2_i (INV_mk hM hS (FX_r _ _) hC (FW_FR hF2) (FR_G hF2 hG) (ST_s hT))
theorem pr_stops (hI : INV t iv jv) : XM (d + 12) Yt_stops [.ref 0] iv jv (Q1 (d + 12) t Ym_stops [.ref 118]) := by
  obtain ⟨G, hT, hC, hG, hM, hS⟩ := hI
  have hB := hT.1
  have b34 : G 34 ≤ 1 := hB.2.2.2.2.2.2.2.2.2.2.2.2
  have f11 := hC.1.2.2.2.2.2.1
  by_cases p : G 34 = 1
  · have p0 : ¬ G 34 = 0 := by omega
    have hov := fun (Q : Option Value → mH → Prop) => sp_o_isOver (d := d + 6) (Q := Q) isB1 hC hB p
    simp (disch := first | assumption | omega) only [e_t_stops, x_t_stops_0, x_t_stops_1, x_t_stops_4, x_t_stops_7, x_t_stops_10, x_t_stops_11, x_t_stops_14, x_t_stops_17, x_t_stops_20, x_t_stops_22, f11, qn0, p0, if_false, hov, XK_s]
    refine Q1_i (sp_m_stops (d := d + 3) hG hB hT.2.2.2.1 (fun iv2 jv2 hF2 => ?_))
    rw [if_pos p]
    exact Q2_i (INV_mk hM hS (FX_r _ _) hC (FW_FR hF2) (FR_G hF2 hG) (ST_s hT))
  · have p0 : G 34 = 0 := by omega
    simp (disch := first | assumption | omega) only [e_t_stops, x_t_stops_0, x_t_stops_1, x_t_stops_4, x_t_stops_7, x_t_stops_10, x_t_stops_11, x_t_stops_14, x_t_stops_17, x_t_stops_20, x_t_stops_22, f11, qn0, p0, if_true]
    refine Q1_i (sp_m_stops (d := d + 3) hG hB hT.2.2.2.1 (fun iv2 jv2 hF2 => ?_))
    rw [if_neg p]
    exact Q2_i (INV_mk hM hS (FX_r _ _) hC (FW_FR hF2) (FR_G hF2 hG) (ST_s hT))
theorem pr_says (hI : INV t iv jv) (x : Int32) : XM (d + 12) Yt_says [.ref 0, .int x] iv jv (Q1 (d + 12) t Ym_says [.ref 118, .int x]) := by
  obtain ⟨G, hT, hC, hG, hM, hS⟩ := hI
  have hB := hT.1
  have b34 : G 34 ≤ 1 := hB.2.2.2.2.2.2.2.2.2.2.2.2
  have f11 := hC.1.2.2.2.2.2.1
  by_cases h : 0 ≤ x.toInt ∧ x.toInt ≤ 4
  · obtain ⟨r, hr, rfl⟩ := nat8 (m := 4) (x := x) h (by decide)
    by_cases p : G 34 = 1
    · have p0 : ¬ G 34 = 0 := by omega
      have hov := fun (Q : Option Value → mH → Prop) => sp_o_ruleSays (d := d + 7) (Q := Q) (r := r) (by omega) isB1 hC hB p
      simp (disch := first | assumption | omega) only [e_t_says, x_t_says_0, x_t_says_1, x_t_says_2, x_t_says_3, x_t_says_6, x_t_says_9, x_t_says_11, x_t_says_12, x_t_says_13, x_t_says_16, x_t_says_19, x_t_says_22, x_t_says_23, x_t_says_26, x_t_says_27, x_t_says_30, x_t_says_33, x_t_says_35, sp_withinN, b01_eq0, hr, Nat.zero_le, and_self, not_true_eq_false, f11, qn0, p0, if_false, hov, XK_s]
      refine Q1_i (sp_m_says (d := d + 4) (show r < 5 from by omega) hG hB hT.2.2.2.1 (fun iv2 jv2 hF2 => ?_))
      rw [if_pos p]
      exact Q2_i (INV_mk hM hS (FX_r _ _) hC (FW_FR hF2) (FR_G hF2 hG) (ST_s hT))
    · have p0 : G 34 = 0 := by omega
      simp (disch := first | assumption | omega) only [e_t_says, x_t_says_0, x_t_says_1, x_t_says_2, x_t_says_3, x_t_says_6, x_t_says_9, x_t_says_11, x_t_says_12, x_t_says_13, x_t_says_16, x_t_says_19, x_t_says_22, x_t_says_23, x_t_says_26, x_t_says_27, x_t_says_30, x_t_says_33, x_t_says_35, sp_withinN, b01_eq0, hr, Nat.zero_le, and_self, not_true_eq_false, f11, qn0, p0, if_true, if_false, XK_s]
      refine Q1_i (sp_m_says (d := d + 4) (show r < 5 from by omega) hG hB hT.2.2.2.1 (fun iv2 jv2 hF2 => ?_))
      rw [if_neg p]
      exact Q2_i (INV_mk hM hS (FX_r _ _) hC (FW_FR hF2) (FR_G hF2 hG) (ST_s hT))
  · have p1 : ¬ (((0 : Nat) : Int) ≤ x.toInt ∧ x.toInt ≤ ((4 : Nat) : Int)) := h
    simp (disch := first | assumption | omega) only [e_t_says, x_t_says_0, x_t_says_1, x_t_says_2, x_t_says_3, x_t_says_6, x_t_says_9, x_t_says_11, x_t_says_12, x_t_says_13, x_t_says_16, x_t_says_19, x_t_says_22, x_t_says_23, x_t_says_26, x_t_says_27, x_t_says_30, x_t_says_33, x_t_says_35, sp_within, XK_s, b01_eq0, eq_false p1, not_false_eq_true, if_true]
    refine Q1_i ?_
    rw [sp_m_says_bad (d := d + 4) h]
    exact Q2_i (INV_r hT hC hG hM hS)
/-! drawn, chance -/
theorem pr_drawn (hI : INV t iv jv) (ht : t < 900) (z x y : Int32) : XM (d + 12) Yt_drawn [.ref 0, .int z, .int x, .int y] iv jv (Q1 (d + 12) t Ym_drawn [.ref 118, .int z, .int x, .int y]) := by
  obtain ⟨G, hT, hC, hG, hM, hS⟩ := hI
  have hB := hT.1
  have b34 : G 34 ≤ 1 := hB.2.2.2.2.2.2.2.2.2.2.2.2
  have f11 := hC.1.2.2.2.2.2.1
  have hgv : ∀ i, i < 8 → G (42 + 6 * i) + 9 ≤ 1000 := fun i hi => by have := hT.2.2.2.2.2.1 i hi; omega
  by_cases h : isLv x ∧ i01 y
  · obtain ⟨l, hl, rfl⟩ := nat8 (m := 8) (x := x) h.1 (by decide)
    obtain ⟨w, hw, rfl⟩ := nat8 (m := 1) (x := y) h.2 (by decide)
    by_cases p : G 34 = 1
    · have p0 : ¬ G 34 = 0 := by omega
      simp (disch := first | assumption | omega) only [e_t_drawn, x_t_drawn_0, x_t_drawn_1, x_t_drawn_4, x_t_drawn_7, x_t_drawn_8, x_t_drawn_9, x_t_drawn_10, x_t_drawn_13, x_t_drawn_16, x_t_drawn_18, x_t_drawn_19, x_t_drawn_20, x_t_drawn_23, x_t_drawn_26, x_t_drawn_29, x_t_drawn_31, x_t_drawn_32, x_t_drawn_33, x_t_drawn_36, x_t_drawn_37, x_t_drawn_40, x_t_drawn_41, x_t_drawn_42, x_t_drawn_45, x_t_drawn_47, x_t_drawn_48, x_t_drawn_51, x_t_drawn_53, x_t_drawn_56, x_t_drawn_57, x_t_drawn_60, x_t_drawn_63, x_t_drawn_66, sp_tLN, sp_withinN, XK_s, b01_eq0, hl, hw, Nat.zero_le, and_self, not_true_eq_false, f11, qn0, p0, if_false]
      refine sp_o_goOnFrom (d := d + 5) isB73 isB1 (by decide) (show l < 9 from by omega) hC hB hT.2.1 hT.2.2.2.1 p hgv (fun iv1 jv1 hF hC1 hB1 => ?_)
      have hh := fun (Q : Option Value → mH → Prop) => sp_w_heaviest (w := 80) (d := d + 10) (iv := iv1) (jv := jv1) (Q := Q) (f := WN (drN G l z).2) (by decide) (by decide) (WN_lt hB1) hC1.2.2.2.2.1.1
      have hX := FX_73 hF
      have fin : ∀ r, vDrawn G z l w = r → Q1 (d + 12) t Ym_drawn [.ref 118, .int z, .int (nI l), .int (nI w)] (some (.int r)) (mk iv1 jv1) := fun r hr => by
        subst hr
        refine Q1_i (sp_m_drawn (d := d + 1) (show l < 9 from by omega) (by omega) (FX_G hX hG) hB hT.2.1 hT.2.2.2.1 hgv (fun iv2 jv2 hF2 hG2 => ?_))
        exact Q2_i (INV_mk hM hS hX (CR73 hF hC hB) hF2 hG2 (ST_s hT))
      unfold vDrawn at fin
      rw [if_pos p] at fin
      by_cases p2 : w = 0
      · simp (disch := first | assumption | omega) only [XK_s, x_t_drawn_0, x_t_drawn_1, x_t_drawn_4, x_t_drawn_7, x_t_drawn_8, x_t_drawn_9, x_t_drawn_10, x_t_drawn_13, x_t_drawn_16, x_t_drawn_18, x_t_drawn_19, x_t_drawn_20, x_t_drawn_23, x_t_drawn_26, x_t_drawn_29, x_t_drawn_31, x_t_drawn_32, x_t_drawn_33, x_t_drawn_36, x_t_drawn_37, x_t_drawn_40, x_t_drawn_41, x_t_drawn_42, x_t_drawn_45, x_t_drawn_47, x_t_drawn_48, x_t_drawn_51, x_t_drawn_53, x_t_drawn_56, x_t_drawn_57, x_t_drawn_60, x_t_drawn_63, x_t_drawn_66, qn0, eq_true p2, if_true]
        exact fin _ (if_pos p2)
      · simp (disch := first | assumption | omega) only [XK_s, x_t_drawn_0, x_t_drawn_1, x_t_drawn_4, x_t_drawn_7, x_t_drawn_8, x_t_drawn_9, x_t_drawn_10, x_t_drawn_13, x_t_drawn_16, x_t_drawn_18, x_t_drawn_19, x_t_drawn_20, x_t_drawn_23, x_t_drawn_26, x_t_drawn_29, x_t_drawn_31, x_t_drawn_32, x_t_drawn_33, x_t_drawn_36, x_t_drawn_37, x_t_drawn_40, x_t_drawn_41, x_t_drawn_42, x_t_drawn_45, x_t_drawn_47, x_t_drawn_48, x_t_drawn_51, x_t_drawn_53, x_t_drawn_56, x_t_drawn_57, x_t_drawn_60, x_t_drawn_63, x_t_drawn_66, qn0, eq_false p2, if_false, hh]
        exact fin _ (if_neg p2)
    · have p0 : G 34 = 0 := by omega
      simp (disch := first | assumption | omega) only [e_t_drawn, x_t_drawn_0, x_t_drawn_1, x_t_drawn_4, x_t_drawn_7, x_t_drawn_8, x_t_drawn_9, x_t_drawn_10, x_t_drawn_13, x_t_drawn_16, x_t_drawn_18, x_t_drawn_19, x_t_drawn_20, x_t_drawn_23, x_t_drawn_26, x_t_drawn_29, x_t_drawn_31, x_t_drawn_32, x_t_drawn_33, x_t_drawn_36, x_t_drawn_37, x_t_drawn_40, x_t_drawn_41, x_t_drawn_42, x_t_drawn_45, x_t_drawn_47, x_t_drawn_48, x_t_drawn_51, x_t_drawn_53, x_t_drawn_56, x_t_drawn_57, x_t_drawn_60, x_t_drawn_63, x_t_drawn_66, sp_tLN, sp_withinN, XK_s, b01_eq0, hl, hw, Nat.zero_le, and_self, not_true_eq_false, f11, qn0, p0, if_false, if_true]
      refine Q1_i (sp_m_drawn (d := d + 1) (show l < 9 from by omega) (by omega) hG hB hT.2.1 hT.2.2.2.1 hgv (fun iv2 jv2 hF2 hG2 => ?_))
      unfold vDrawn
      rw [if_neg p]
      exact Q2_i (INV_mk hM hS (FX_r _ _) hC hF2 hG2 (ST_s hT))
  · have fin : Q1 (d + 12) t Ym_drawn [.ref 118, .int z, .int x, .int y] (some (.int (-2))) (mk iv jv) := by
      refine Q1_i ?_
      rw [sp_m_drawn_bad (d := d) h]
      exact Q2_i (INV_r hT hC hG hM hS)
    unfold isLv i01 at h
    by_cases p1 : ((0 : Nat) : Int) ≤ x.toInt ∧ x.toInt ≤ ((8 : Nat) : Int)
    · have p3 : ¬ (((0 : Nat) : Int) ≤ y.toInt ∧ y.toInt ≤ ((1 : Nat) : Int)) := by omega
      simp (disch := first | assumption | omega) only [e_t_drawn, x_t_drawn_0, x_t_drawn_1, x_t_drawn_4, x_t_drawn_7, x_t_drawn_8, x_t_drawn_9, x_t_drawn_10, x_t_drawn_13, x_t_drawn_16, x_t_drawn_18, x_t_drawn_19, x_t_drawn_20, x_t_drawn_23, x_t_drawn_26, x_t_drawn_29, x_t_drawn_31, x_t_drawn_32, x_t_drawn_33, x_t_drawn_36, x_t_drawn_37, x_t_drawn_40, x_t_drawn_41, x_t_drawn_42, x_t_drawn_45, x_t_drawn_47, x_t_drawn_48, x_t_drawn_51, x_t_drawn_53, x_t_drawn_56, x_t_drawn_57, x_t_drawn_60, x_t_drawn_63, x_t_drawn_66, sp_t_isLevel, sp_within, XK_s, b01_eq0, eq_true p1, eq_false p3, not_true_eq_false, not_false_eq_true, if_false, if_true]
      exact fin
    · simp (disch := first | assumption | omega) only [e_t_drawn, x_t_drawn_0, x_t_drawn_1, x_t_drawn_4, x_t_drawn_7, x_t_drawn_8, x_t_drawn_9, x_t_drawn_10, x_t_drawn_13, x_t_drawn_16, x_t_drawn_18, x_t_drawn_19, x_t_drawn_20, x_t_drawn_23, x_t_drawn_26, x_t_drawn_29, x_t_drawn_31, x_t_drawn_32, x_t_drawn_33, x_t_drawn_36, x_t_drawn_37, x_t_drawn_40, x_t_drawn_41, x_t_drawn_42, x_t_drawn_45, x_t_drawn_47, x_t_drawn_48, x_t_drawn_51, x_t_drawn_53, x_t_drawn_56, x_t_drawn_57, x_t_drawn_60, x_t_drawn_63, x_t_drawn_66, sp_t_isLevel, XK_s, b01_eq0, eq_false p1, not_false_eq_true, if_true]
      exact fin
theorem lp_t_chance {l m : Nat} {z i4 : Int32} (hl : l < 9) (hm : m ≤ 10) (hC : CR 1 G iv jv) (hB : IB G) (hD : DS G) (hn : nz (wt G 0)) (hon : G 34 = 1) (hgv : ∀ i, i < 8 → G (42 + 6 * i) + 9 ≤ 1000) (hQ : ∀ iv' jv', FB 73 iv jv iv' jv' → XT (d + 11) Yt_chance 49 [.ref 0, .int z, .int (nI l), .int (nI m), .int i4, .int (nI (nearC G l z m)), .int (nI m)] [] iv' jv' Q) : ∀ n k, k + n = m → ∀ iv1 jv1, FB 73 iv jv iv1 jv1 → XT (d + 11) Yt_chance 49 [.ref 0, .int z, .int (nI l), .int (nI m), .int i4, .int (nI (nearC G l z k)), .int (nI k)] [] iv1 jv1 Q := by
  intro n
  induction n with
  | zero =>
    intro k hk iv1 jv1 hF
    obtain rfl : k = m := by omega
    exact hQ iv1 jv1 hF
  | succ n ih =>
    intro k hk iv1 jv1 hF
    have h4 : ¬ m ≤ k := by omega
    have hC1 := CR73 hF hC hB
    have h8 := ih (k + 1) (by omega)
    rw [nearC_s] at h8
    rw [x_t_chance_49]
    simp (disch := first | assumption | omega) only [x_t_chance_0, x_t_chance_1, x_t_chance_4, x_t_chance_7, x_t_chance_8, x_t_chance_9, x_t_chance_11, x_t_chance_14, x_t_chance_17, x_t_chance_19, x_t_chance_20, x_t_chance_21, x_t_chance_24, x_t_chance_27, x_t_chance_29, x_t_chance_30, x_t_chance_31, x_t_chance_34, x_t_chance_37, x_t_chance_40, x_t_chance_42, x_t_chance_43, x_t_chance_44, x_t_chance_46, x_t_chance_47, x_t_chance_51, x_t_chance_52, x_t_chance_55, x_t_chance_56, x_t_chance_59, x_t_chance_60, x_t_chance_63, x_t_chance_64, x_t_chance_66, x_t_chance_67, x_t_chance_68, x_t_chance_71, x_t_chance_72, x_t_chance_73, x_t_chance_76, x_t_chance_79, x_t_chance_82, x_t_chance_83, x_t_chance_84, x_t_chance_87, x_t_chance_88, x_t_chance_91, x_t_chance_94, x_t_chance_97, x_t_chance_100, x_t_chance_102, x_t_chance_103, x_t_chance_104, x_t_chance_105, x_t_chance_107, x_t_chance_110, x_t_chance_111, q_le, h4, if_false]
    refine sp_o_goOnFrom (d := d + 5) isB73 isB1 (by decide) hl hC1 hB hD hn hon hgv (fun iv2 jv2 hF2 hC2 hB2 => ?_)
    have hh := fun (Q : Option Value → mH → Prop) => sp_w_heaviest (w := 80) (d := d + 10) (iv := iv2) (jv := jv2) (Q := Q) (f := WN (drN G l (z + nI k)).2) (by decide) (by decide) (WN_lt hB2) hC2.2.2.2.2.1.1
    rw [show mdF (WN (drN G l (z + nI k)).2) 8 = mdN (drN G l (z + nI k)).2 from rfl] at hh
    have h9 := h8 iv2 jv2 (FB_t hF hF2)
    simp (disch := first | assumption | omega) only [XK_s, x_t_chance_0, x_t_chance_1, x_t_chance_4, x_t_chance_7, x_t_chance_8, x_t_chance_9, x_t_chance_11, x_t_chance_14, x_t_chance_17, x_t_chance_19, x_t_chance_20, x_t_chance_21, x_t_chance_24, x_t_chance_27, x_t_chance_29, x_t_chance_30, x_t_chance_31, x_t_chance_34, x_t_chance_37, x_t_chance_40, x_t_chance_42, x_t_chance_43, x_t_chance_44, x_t_chance_46, x_t_chance_47, x_t_chance_51, x_t_chance_52, x_t_chance_55, x_t_chance_56, x_t_chance_59, x_t_chance_60, x_t_chance_63, x_t_chance_64, x_t_chance_66, x_t_chance_67, x_t_chance_68, x_t_chance_71, x_t_chance_72, x_t_chance_73, x_t_chance_76, x_t_chance_79, x_t_chance_82, x_t_chance_83, x_t_chance_84, x_t_chance_87, x_t_chance_88, x_t_chance_91, x_t_chance_94, x_t_chance_97, x_t_chance_100, x_t_chance_102, x_t_chance_103, x_t_chance_104, x_t_chance_105, x_t_chance_107, x_t_chance_110, x_t_chance_111, hh]
    by_cases p : nI 1 < nearX (mdN (drN G l (z + nI k)).2) l
    · rw [if_pos p, Nat.add_zero] at h9
      unfold nearX at p
      simp (disch := first | assumption | omega) only [p, if_true, q_add]
      exact h9
    · rw [if_neg p] at h9
      unfold nearX at p
      simp (disch := first | assumption | omega) only [p, if_false, q_add]
      exact h9
theorem pr_chance (hI : INV t iv jv) (ht : t < 900) (z x y w : Int32) : XM (d + 12) Yt_chance [.ref 0, .int z, .int x, .int y, .int w] iv jv (Q1 (d + 12) t Ym_chance [.ref 118, .int z, .int x, .int y, .int w]) := by
  obtain ⟨G, hT, hC, hG, hM, hS⟩ := hI
  have hB := hT.1
  have b34 : G 34 ≤ 1 := hB.2.2.2.2.2.2.2.2.2.2.2.2
  have f11 := hC.1.2.2.2.2.2.1
  have hgv : ∀ i, i < 8 → G (42 + 6 * i) + 9 ≤ 1000 := fun i hi => by have := hT.2.2.2.2.2.1 i hi; omega
  by_cases h : isLv x ∧ isM y ∧ i01 w
  · obtain ⟨l, hl, rfl⟩ := nat8 (m := 8) (x := x) h.1 (by decide)
    obtain ⟨m, hm, rfl⟩ := nat8 (m := 10) (x := y) ⟨by have := h.2.1.1; omega, h.2.1.2⟩ (by decide)
    obtain ⟨p', hp, rfl⟩ := nat8 (m := 1) (x := w) h.2.2 (by decide)
    have hm1 : 1 ≤ m := by have := h.2.1.1; rw [nI_toI (by omega)] at this; omega
    by_cases p : G 34 = 1
    · have p0 : ¬ G 34 = 0 := by omega
      simp (disch := first | assumption | omega) only [e_t_chance, x_t_chance_0, x_t_chance_1, x_t_chance_4, x_t_chance_7, x_t_chance_8, x_t_chance_9, x_t_chance_11, x_t_chance_14, x_t_chance_17, x_t_chance_19, x_t_chance_20, x_t_chance_21, x_t_chance_24, x_t_chance_27, x_t_chance_29, x_t_chance_30, x_t_chance_31, x_t_chance_34, x_t_chance_37, x_t_chance_40, x_t_chance_42, x_t_chance_43, x_t_chance_44, x_t_chance_46, x_t_chance_47, x_t_chance_51, x_t_chance_52, x_t_chance_55, x_t_chance_56, x_t_chance_59, x_t_chance_60, x_t_chance_63, x_t_chance_64, x_t_chance_66, x_t_chance_67, x_t_chance_68, x_t_chance_71, x_t_chance_72, x_t_chance_73, x_t_chance_76, x_t_chance_79, x_t_chance_82, x_t_chance_83, x_t_chance_84, x_t_chance_87, x_t_chance_88, x_t_chance_91, x_t_chance_94, x_t_chance_97, x_t_chance_100, x_t_chance_102, x_t_chance_103, x_t_chance_104, x_t_chance_105, x_t_chance_107, x_t_chance_110, x_t_chance_111, sp_tLN, sp_withinN, XK_s, b01_eq0, hl, hm, hm1, hp, Nat.zero_le, and_self, not_true_eq_false, f11, qn0, p0, if_false]
      refine lp_t_chance (d := d) (iv := iv) (jv := jv) (show l < 9 from by omega) hm hC hB hT.2.1 hT.2.2.2.1 p hgv (fun iv1 jv1 hF => ?_) m 0 (by omega) iv jv (FB_r _ _ _)
      have hX := FX_73 hF
      have h5 := nearC_le G l z m
      have hfr := fun (Q : Option Value → mH → Prop) => sp_e_in (d := d + 9) (iv := iv1) (jv := jv1) (Q := Q) (a := (nearC G l z m, false)) (b := (m, false)) (p := p') (by dsimp only; omega) (by dsimp only; omega) (fun _ _ => hm1) (by omega)
      have ev : frR (false || false) (nearC G l z m) m p' = lN (frN (nearC G l z m) m p') := rfl
      simp only [← lo_n, ev] at hfr
      rw [x_t_chance_49]
      simp (disch := first | assumption | omega) only [x_t_chance_0, x_t_chance_1, x_t_chance_4, x_t_chance_7, x_t_chance_8, x_t_chance_9, x_t_chance_11, x_t_chance_14, x_t_chance_17, x_t_chance_19, x_t_chance_20, x_t_chance_21, x_t_chance_24, x_t_chance_27, x_t_chance_29, x_t_chance_30, x_t_chance_31, x_t_chance_34, x_t_chance_37, x_t_chance_40, x_t_chance_42, x_t_chance_43, x_t_chance_44, x_t_chance_46, x_t_chance_47, x_t_chance_51, x_t_chance_52, x_t_chance_55, x_t_chance_56, x_t_chance_59, x_t_chance_60, x_t_chance_63, x_t_chance_64, x_t_chance_66, x_t_chance_67, x_t_chance_68, x_t_chance_71, x_t_chance_72, x_t_chance_73, x_t_chance_76, x_t_chance_79, x_t_chance_82, x_t_chance_83, x_t_chance_84, x_t_chance_87, x_t_chance_88, x_t_chance_91, x_t_chance_94, x_t_chance_97, x_t_chance_100, x_t_chance_102, x_t_chance_103, x_t_chance_104, x_t_chance_105, x_t_chance_107, x_t_chance_110, x_t_chance_111, q_le, Nat.le_refl, if_true, q_i2l, hfr, XK_s, q_l2i]
      refine Q1_i (sp_m_chance (d := d + 1) (show l < 9 from by omega) hm1 hm (by omega) (FX_G hX hG) hB hT.2.1 hT.2.2.2.1 hgv (fun iv2 jv2 hF2 hG2 => ?_))
      unfold vChance
      rw [if_pos p]
      exact Q2_i (INV_mk hM hS hX (CR73 hF hC hB) hF2 hG2 (ST_s hT))
    · have p0 : G 34 = 0 := by omega
      simp (disch := first | assumption | omega) only [e_t_chance, x_t_chance_0, x_t_chance_1, x_t_chance_4, x_t_chance_7, x_t_chance_8, x_t_chance_9, x_t_chance_11, x_t_chance_14, x_t_chance_17, x_t_chance_19, x_t_chance_20, x_t_chance_21, x_t_chance_24, x_t_chance_27, x_t_chance_29, x_t_chance_30, x_t_chance_31, x_t_chance_34, x_t_chance_37, x_t_chance_40, x_t_chance_42, x_t_chance_43, x_t_chance_44, x_t_chance_46, x_t_chance_47, x_t_chance_51, x_t_chance_52, x_t_chance_55, x_t_chance_56, x_t_chance_59, x_t_chance_60, x_t_chance_63, x_t_chance_64, x_t_chance_66, x_t_chance_67, x_t_chance_68, x_t_chance_71, x_t_chance_72, x_t_chance_73, x_t_chance_76, x_t_chance_79, x_t_chance_82, x_t_chance_83, x_t_chance_84, x_t_chance_87, x_t_chance_88, x_t_chance_91, x_t_chance_94, x_t_chance_97, x_t_chance_100, x_t_chance_102, x_t_chance_103, x_t_chance_104, x_t_chance_105, x_t_chance_107, x_t_chance_110, x_t_chance_111, sp_tLN, sp_withinN, XK_s, b01_eq0, hl, hm, hm1, hp, Nat.zero_le, and_self, not_true_eq_false, f11, qn0, p0, if_false, if_true]
      refine Q1_i (sp_m_chance (d := d + 1) (show l < 9 from by omega) hm1 hm (by omega) hG hB hT.2.1 hT.2.2.2.1 hgv (fun iv2 jv2 hF2 hG2 => ?_))
      unfold vChance
      rw [if_neg p]
      exact Q2_i (INV_mk hM hS (FX_r _ _) hC hF2 hG2 (ST_s hT))
  · have fin : Q1 (d + 12) t Ym_chance [.ref 118, .int z, .int x, .int y, .int w] (some (.int (-2))) (mk iv jv) := by
      refine Q1_i ?_
      rw [sp_m_chance_bad (d := d) h]
      exact Q2_i (INV_r hT hC hG hM hS)
    unfold isLv isM i01 at h
    by_cases p1 : ((0 : Nat) : Int) ≤ x.toInt ∧ x.toInt ≤ ((8 : Nat) : Int)
    · by_cases p2 : ((1 : Nat) : Int) ≤ y.toInt ∧ y.toInt ≤ ((10 : Nat) : Int)
      · have p3 : ¬ (((0 : Nat) : Int) ≤ w.toInt ∧ w.toInt ≤ ((1 : Nat) : Int)) := by omega
        simp (disch := first | assumption | omega) only [e_t_chance, x_t_chance_0, x_t_chance_1, x_t_chance_4, x_t_chance_7, x_t_chance_8, x_t_chance_9, x_t_chance_11, x_t_chance_14, x_t_chance_17, x_t_chance_19, x_t_chance_20, x_t_chance_21, x_t_chance_24, x_t_chance_27, x_t_chance_29, x_t_chance_30, x_t_chance_31, x_t_chance_34, x_t_chance_37, x_t_chance_40, x_t_chance_42, x_t_chance_43, x_t_chance_44, x_t_chance_46, x_t_chance_47, x_t_chance_51, x_t_chance_52, x_t_chance_55, x_t_chance_56, x_t_chance_59, x_t_chance_60, x_t_chance_63, x_t_chance_64, x_t_chance_66, x_t_chance_67, x_t_chance_68, x_t_chance_71, x_t_chance_72, x_t_chance_73, x_t_chance_76, x_t_chance_79, x_t_chance_82, x_t_chance_83, x_t_chance_84, x_t_chance_87, x_t_chance_88, x_t_chance_91, x_t_chance_94, x_t_chance_97, x_t_chance_100, x_t_chance_102, x_t_chance_103, x_t_chance_104, x_t_chance_105, x_t_chance_107, x_t_chance_110, x_t_chance_111, sp_t_isLevel, sp_within, XK_s, b01_eq0, eq_true p1, eq_true p2, eq_false p3, not_true_eq_false, not_false_eq_true, if_false, if_true]
        exact fin
      · simp (disch := first | assumption | omega) only [e_t_chance, x_t_chance_0, x_t_chance_1, x_t_chance_4, x_t_chance_7, x_t_chance_8, x_t_chance_9, x_t_chance_11, x_t_chance_14, x_t_chance_17, x_t_chance_19, x_t_chance_20, x_t_chance_21, x_t_chance_24, x_t_chance_27, x_t_chance_29, x_t_chance_30, x_t_chance_31, x_t_chance_34, x_t_chance_37, x_t_chance_40, x_t_chance_42, x_t_chance_43, x_t_chance_44, x_t_chance_46, x_t_chance_47, x_t_chance_51, x_t_chance_52, x_t_chance_55, x_t_chance_56, x_t_chance_59, x_t_chance_60, x_t_chance_63, x_t_chance_64, x_t_chance_66, x_t_chance_67, x_t_chance_68, x_t_chance_71, x_t_chance_72, x_t_chance_73, x_t_chance_76, x_t_chance_79, x_t_chance_82, x_t_chance_83, x_t_chance_84, x_t_chance_87, x_t_chance_88, x_t_chance_91, x_t_chance_94, x_t_chance_97, x_t_chance_100, x_t_chance_102, x_t_chance_103, x_t_chance_104, x_t_chance_105, x_t_chance_107, x_t_chance_110, x_t_chance_111, sp_t_isLevel, sp_within, XK_s, b01_eq0, eq_true p1, eq_false p2, not_true_eq_false, not_false_eq_true, if_false, if_true]
        exact fin
    · simp (disch := first | assumption | omega) only [e_t_chance, x_t_chance_0, x_t_chance_1, x_t_chance_4, x_t_chance_7, x_t_chance_8, x_t_chance_9, x_t_chance_11, x_t_chance_14, x_t_chance_17, x_t_chance_19, x_t_chance_20, x_t_chance_21, x_t_chance_24, x_t_chance_27, x_t_chance_29, x_t_chance_30, x_t_chance_31, x_t_chance_34, x_t_chance_37, x_t_chance_40, x_t_chance_42, x_t_chance_43, x_t_chance_44, x_t_chance_46, x_t_chance_47, x_t_chance_51, x_t_chance_52, x_t_chance_55, x_t_chance_56, x_t_chance_59, x_t_chance_60, x_t_chance_63, x_t_chance_64, x_t_chance_66, x_t_chance_67, x_t_chance_68, x_t_chance_71, x_t_chance_72, x_t_chance_73, x_t_chance_76, x_t_chance_79, x_t_chance_82, x_t_chance_83, x_t_chance_84, x_t_chance_87, x_t_chance_88, x_t_chance_91, x_t_chance_94, x_t_chance_97, x_t_chance_100, x_t_chance_102, x_t_chance_103, x_t_chance_104, x_t_chance_105, x_t_chance_107, x_t_chance_110, x_t_chance_111, sp_t_isLevel, XK_s, b01_eq0, eq_false p1, not_false_eq_true, if_true]
      exact fin
end PAIR6
