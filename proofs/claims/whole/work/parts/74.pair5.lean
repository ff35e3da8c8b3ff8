section PAIR5
variable {d t : Nat} {iv : mI} {jv : mJ} {G : Nat → Nat} {B : Nat} {Q : Option Value → mH → Prop}
theorem pr_weight (hI : INV t iv jv) (x : Int32) : XM (d + 12) Yt_weight [.ref 0, .int x] iv jv (QJ (d + 12) t Ym_weight [.ref 118, .int x]) := by
  obtain ⟨G, hT, hC, hG, hM, hS⟩ := hI
  have hB := hT.1
  by_cases h : 0 ≤ x.toInt ∧ x.toInt ≤ ((8 : Nat) : Int)
  · obtain ⟨l, hl, rfl⟩ := nat8 (m := 8) (x := x) h (by decide)
    have wr := (cr1 hC).2.2.2.2.1.1 l (by omega)
    simp (disch := first | assumption | omega) only [e_t_weight, x_t_weight_0, x_t_weight_1, x_t_weight_4, x_t_weight_7, x_t_weight_8, x_t_weight_11, x_t_weight_14, x_t_weight_17, x_t_weight_18, x_t_weight_19, x_t_weight_22, x_t_weight_25, sp_tLN, XK_s, b01_eq0, hl, not_true_eq_false, if_false, q_in, q_tn, true_and, wr]
    exact QJ_i (sp_m_weight (d := d + 5) hG hB hT.2.2.2.1 (by omega) (fun iv2 jv2 hF => Q2_i (INV_mk hM hS (FX_r _ _) hC (FW_FR hF) (FR_G hF hG) (ST_s hT))))
  · have p1 : ¬ (((0 : Nat) : Int) ≤ x.toInt ∧ x.toInt ≤ ((8 : Nat) : Int)) := h
    simp (disch := first | assumption | omega) only [e_t_weight, x_t_weight_0, x_t_weight_1, x_t_weight_4, x_t_weight_7, x_t_weight_8, x_t_weight_11, x_t_weight_14, x_t_weight_17, x_t_weight_18, x_t_weight_19, x_t_weight_22, x_t_weight_25, sp_t_isLevel, XK_s, b01_eq0, eq_false p1, not_false_eq_true, if_true]
    refine QJ_i ?_
    rw [sp_m_weight_bad (d := d + 5) h]
    exact Q2_i (INV_r hT hC hG hM hS)
theorem pr_mode (hI : INV t iv jv) : XM (d + 12) Yt_mode [.ref 0] iv jv (Q1 (d + 12) t Ym_mode [.ref 118]) := by
  obtain ⟨G, hT, hC, hG, hM, hS⟩ := hI
  have hB := hT.1
  have wr := (cr1 hC).2.2.2.2.1.1
  have hh := fun (Q : Option Value → mH → Prop) => sp_w_heaviest (w := 8) (d := d + 10) (iv := iv) (jv := jv) (Q := Q) (f := WN G) (by decide) (by decide) (WN_lt hB) wr
  simp (disch := first | assumption | omega) only [e_t_mode, x_t_mode_0, x_t_mode_1, x_t_mode_4, x_t_mode_7, x_t_mode_10, hh, XK_s]
  refine Q1_i ?_
  rw [sp_m_mode (d := d + 5) hG hB hT.2.2.2.1]
  exact Q2_i (INV_mk hM hS (FX_r _ _) hC (FW_FR (FR_weighs iv jv _)) (FR_G (FR_weighs iv jv _) hG) (ST_s hT))
theorem in_hi {x : Int32} {n : Nat} (h1 : 10 ≤ x.toInt) (h2 : x.toInt < 10 + (n : Int)) (hn : n ≤ 8) : ∃ i, i < n ∧ x = nI (10 + i) := by
  obtain ⟨k, hk, rfl⟩ := inR_of (x := x) (m := 17) ⟨by omega, by omega⟩ (by decide)
  rw [nI_toI (by omega)] at h1 h2
  exact ⟨k - 10, by omega, by rw [show 10 + (k - 10) = k from by omega]⟩
theorem in_hi2 {x : Int32} {n : Nat} (h1 : 20 ≤ x.toInt) (h2 : x.toInt < 20 + (n : Int)) (hn : n ≤ 8) : ∃ i, i < n ∧ x = nI (20 + i) := by
  obtain ⟨k, hk, rfl⟩ := inR_of (x := x) (m := 27) ⟨by omega, by omega⟩ (by decide)
  rw [nI_toI (by omega)] at h1 h2
  exact ⟨k - 20, by omega, by rw [show 20 + (k - 20) = k from by omega]⟩
theorem sp_fr {f : Nat → Nat} (p : Nat) : frR ((abP f).2 || (bbP f).2) (abP f).1 (bbP f).1 p = vSpread f p := by
  have e := abbb f
  show frR (abB f || (bbP f).2) (abP f).1 (spL f) p = frR (spB f) (spN f) (spL f) p
  rw [e]
  cases h : spB f
  · rw [h, Bool.or_eq_false_iff] at e
    rw [abP_n e.1]
  · rfl
theorem bb_pos {f : Nat → Nat} (hn : nz f) (h1 : (abP f).2 = false) (h2 : (bbP f).2 = false) : 0 < (bbP f).1 := by
  have e := abbb f
  rw [show abB f = false from h1, h2] at e
  exact spL_pos hn e.symm
theorem ab_lt (f : Nat → Nat) : (abP f).1 < 9223372036854775808 := by
  have h1 : (sqP f).1 < 9223372036854775808 := tP_lt _ _
  show (sqP f).1 - (mmP f).1 < _
  omega
theorem bb_lt (f : Nat → Nat) : (bbP f).1 < 9223372036854775808 := tP_lt _ _
set_option maxHeartbeats 1000000 in
theorem pr_now (hI : INV t iv jv) (x y : Int32) : XM (d + 12) Yt_now [.ref 0, .int x, .int y] iv jv (QJ (d + 12) t Ym_now [.ref 118, .int x, .int y]) := by
  obtain ⟨G, hT, hC, hG, hM, hS⟩ := hI
  have hB := hT.1
  have b1 := hB.1
  have hn := hT.2.2.2.1
  obtain ⟨cf, cp, ca, cb, ⟨wr, ws⟩, ck, ci⟩ := cr1 hC
  obtain ⟨w1, w2, w3⟩ := id ws
  have f9 := cf.2.2.2.2.1
  have hw : shp 8 = (4, 4) := by decide
  have hw1 : shp (8 + 1) = (17, 9) := by decide
  have hm := fun (p : Nat) (hp : p < 2) (Q : Option Value → mH → Prop) => sp_w_mean (d := d + 8) (iv := iv) (Q := Q) (p := p) hw ws (WN_nz hn) hp
  have hsa := fun (Q : Option Value → mH → Prop) => sp_w_spreadAbove (d := d + 9) (iv := iv) (Q := Q) hw ws
  have hsb := fun (Q : Option Value → mH → Prop) => sp_w_spreadBelow (d := d + 9) (iv := iv) (Q := Q) hw ws
  by_cases h : nowOk G x y
  · obtain ⟨h1, h2⟩ := h
    obtain ⟨p, hp, rfl⟩ := nat8 (m := 1) (x := y) h2 (by decide)
    have hp2 : p < 2 := by omega
    have hsp := fun (Q : Option Value → mH → Prop) => sp_e_in (d := d + 9) (iv := iv) (jv := jv) (Q := Q) (a := abP (WN G)) (b := bbP (WN G)) (p := p) (ab_lt _) (bb_lt _) (fun a b => bb_pos (WN_nz hn) a b) hp2
    simp only [sp_fr] at hsp
    rcases h1 with h1 | h1 | h1
    · obtain ⟨k, hk, rfl⟩ := nat8 (m := 1) (x := x) h1 (by decide)
      by_cases e : k = 0
      · subst e
        simp (disch := first | assumption | omega) only [e_t_now, x_t_now_0, x_t_now_1, x_t_now_2, x_t_now_3, x_t_now_6, x_t_now_9, x_t_now_12, x_t_now_13, x_t_now_14, x_t_now_17, x_t_now_20, x_t_now_21, x_t_now_22, x_t_now_25, x_t_now_26, x_t_now_27, x_t_now_30, x_t_now_31, x_t_now_32, x_t_now_33, x_t_now_36, x_t_now_37, x_t_now_40, x_t_now_41, x_t_now_44, x_t_now_45, x_t_now_48, x_t_now_49, x_t_now_50, x_t_now_52, x_t_now_54, x_t_now_55, x_t_now_58, x_t_now_61, x_t_now_62, x_t_now_65, x_t_now_68, x_t_now_69, x_t_now_70, x_t_now_73, x_t_now_76, x_t_now_77, x_t_now_79, x_t_now_80, x_t_now_81, x_t_now_84, x_t_now_85, x_t_now_88, x_t_now_89, x_t_now_92, x_t_now_93, x_t_now_94, x_t_now_96, x_t_now_98, x_t_now_99, x_t_now_102, x_t_now_105, x_t_now_106, x_t_now_109, x_t_now_112, x_t_now_113, x_t_now_116, x_t_now_119, x_t_now_120, x_t_now_122, x_t_now_123, x_t_now_124, x_t_now_126, x_t_now_127, x_t_now_129, x_t_now_132, x_t_now_135, x_t_now_136, x_t_now_139, x_t_now_142, x_t_now_143, x_t_now_146, x_t_now_147, x_t_now_150, sp_withinN, XK_s, b01_eq0, hp, Nat.zero_le, and_self, not_true_eq_false, if_false, if_true, hm]
        exact QJ_i (sp_m_now0 (d := d + 4) hG hB hn hp2 (fun iv2 jv2 hF => Q2_i (INV_mk hM hS (FX_r _ _) hC (FW_FR hF) (FR_G hF hG) (ST_s hT))))
      · obtain rfl : k = 1 := by omega
        simp (disch := first | assumption | omega) only [e_t_now, x_t_now_0, x_t_now_1, x_t_now_2, x_t_now_3, x_t_now_6, x_t_now_9, x_t_now_12, x_t_now_13, x_t_now_14, x_t_now_17, x_t_now_20, x_t_now_21, x_t_now_22, x_t_now_25, x_t_now_26, x_t_now_27, x_t_now_30, x_t_now_31, x_t_now_32, x_t_now_33, x_t_now_36, x_t_now_37, x_t_now_40, x_t_now_41, x_t_now_44, x_t_now_45, x_t_now_48, x_t_now_49, x_t_now_50, x_t_now_52, x_t_now_54, x_t_now_55, x_t_now_58, x_t_now_61, x_t_now_62, x_t_now_65, x_t_now_68, x_t_now_69, x_t_now_70, x_t_now_73, x_t_now_76, x_t_now_77, x_t_now_79, x_t_now_80, x_t_now_81, x_t_now_84, x_t_now_85, x_t_now_88, x_t_now_89, x_t_now_92, x_t_now_93, x_t_now_94, x_t_now_96, x_t_now_98, x_t_now_99, x_t_now_102, x_t_now_105, x_t_now_106, x_t_now_109, x_t_now_112, x_t_now_113, x_t_now_116, x_t_now_119, x_t_now_120, x_t_now_122, x_t_now_123, x_t_now_124, x_t_now_126, x_t_now_127, x_t_now_129, x_t_now_132, x_t_now_135, x_t_now_136, x_t_now_139, x_t_now_142, x_t_now_143, x_t_now_146, x_t_now_147, x_t_now_150, sp_withinN, XK_s, b01_eq0, n10, hp, Nat.zero_le, and_self, not_true_eq_false, if_false, if_true, hsa, hsb, hsp]
        exact QJ_i (sp_m_now1 (d := d + 4) hG hB hn hp2 (fun iv2 jv2 hF => Q2_i (INV_mk hM hS (FX_r _ _) hC (FW_FR hF) (FR_G hF hG) (ST_s hT))))
    · obtain ⟨i, hi, rfl⟩ := in_hi h1.1 h1.2 b1
      have hi8 : i < 8 := by omega
      obtain ⟨t0, t1, t2⟩ := sI1 hi8
      obtain ⟨f8, fr, ft⟩ := ci i hi
      have e0 : ¬ (10 + i = 0) := by omega
      have e1 : ¬ (10 + i = 1) := by omega
      have e2 : 10 ≤ 10 + i := by omega
      have e3 : 10 + i - 10 = i := by omega
      have e4 : 10 + i ≤ 9 + G 29 := by omega
      have hin := fun (Q : Option Value → mH → Prop) => sp_w_informs (w := 8) (d := d + 9) (iv := iv) (jv := jv) (Q := Q) (f := WN G) (T := tel G i) hw hw1 t0 t2 (by omega) (WN_lt hB) wr ft (fun l _ => tel_le hB hi8 l)
      have hfr := fun (Q : Option Value → mH → Prop) => sp_e_in (d := d + 9) (iv := iv) (jv := jv) (Q := Q) (a := gst (WN G) (tel G i) 9) (b := gst c1 (WN G) 9) (p := p) (gst_lt _ _ _) (gst_lt _ _ _) (fun _ b => A_pos (WN_nz hn) b) hp2
      simp (disch := first | assumption | omega) only [e_t_now, x_t_now_0, x_t_now_1, x_t_now_2, x_t_now_3, x_t_now_6, x_t_now_9, x_t_now_12, x_t_now_13, x_t_now_14, x_t_now_17, x_t_now_20, x_t_now_21, x_t_now_22, x_t_now_25, x_t_now_26, x_t_now_27, x_t_now_30, x_t_now_31, x_t_now_32, x_t_now_33, x_t_now_36, x_t_now_37, x_t_now_40, x_t_now_41, x_t_now_44, x_t_now_45, x_t_now_48, x_t_now_49, x_t_now_50, x_t_now_52, x_t_now_54, x_t_now_55, x_t_now_58, x_t_now_61, x_t_now_62, x_t_now_65, x_t_now_68, x_t_now_69, x_t_now_70, x_t_now_73, x_t_now_76, x_t_now_77, x_t_now_79, x_t_now_80, x_t_now_81, x_t_now_84, x_t_now_85, x_t_now_88, x_t_now_89, x_t_now_92, x_t_now_93, x_t_now_94, x_t_now_96, x_t_now_98, x_t_now_99, x_t_now_102, x_t_now_105, x_t_now_106, x_t_now_109, x_t_now_112, x_t_now_113, x_t_now_116, x_t_now_119, x_t_now_120, x_t_now_122, x_t_now_123, x_t_now_124, x_t_now_126, x_t_now_127, x_t_now_129, x_t_now_132, x_t_now_135, x_t_now_136, x_t_now_139, x_t_now_142, x_t_now_143, x_t_now_146, x_t_now_147, x_t_now_150, sp_withinN, XK_s, b01_eq0, q_eq, qn0, e0, e1, hp, Nat.zero_le, and_self, not_true_eq_false, if_false, if_true, f9, q_add, e2, e4, q_sub, e3, q_in, q_tn, true_and, hin, w1, hfr]
      exact QJ_i (sp_m_now10 (d := d + 4) hG hB hn hi hp2 (fun iv2 jv2 hF => Q2_i (INV_mk hM hS (FX_r _ _) hC (FW_FR hF) (FR_G hF hG) (ST_s hT))))
    · obtain ⟨i, hi, rfl⟩ := in_hi2 h1.1 h1.2 b1
      have hi8 : i < 8 := by omega
      obtain ⟨t0, t1, t2⟩ := sI1 hi8
      obtain ⟨f8, fr, ft⟩ := ci i hi
      have e0 : ¬ (20 + i = 0) := by omega
      have e1 : ¬ (20 + i = 1) := by omega
      have e2 : 20 ≤ 20 + i := by omega
      have e3 : 20 + i - 20 = i := by omega
      have e4 : 20 + i ≤ 19 + G 29 := by omega
      have e5 : ¬ (20 + i ≤ 9 + G 29) := by omega
      have hin := fun (Q : Option Value → mH → Prop) => sp_w_rights (w := 8) (d := d + 9) (iv := iv) (jv := jv) (Q := Q) (f := WN G) (T := rgt G i) hw hw1 t0 t1 (by omega) (WN_lt hB) wr fr (fun l _ => by have := rgt_in G i l; omega)
      have h16 := fun (Q : Option Value → mH → Prop) => sp_e_times (d := d + 10) (iv := iv) (jv := jv) (Q := Q) (a := (16, false)) (b := gst c1 (WN G) 9) (by decide) (gst_lt _ _ _)
      have hfr := fun (Q : Option Value → mH → Prop) => sp_e_in (d := d + 9) (iv := iv) (jv := jv) (Q := Q) (a := gst (WN G) (rgt G i) 9) (b := tP (16, false) (gst c1 (WN G) 9)) (p := p) (gst_lt _ _ _) (tP_lt _ _) (fun _ b => by
        unfold tP at b
        simp only [Bool.false_or, Bool.or_eq_false_iff] at b
        exact tv16_pos (WN_nz hn) b.1 b.2) hp2
      have ev : frR ((gst (WN G) (rgt G i) 9).2 || (tP (16, false) (gst c1 (WN G) 9)).2) (gst (WN G) (rgt G i) 9).1 (tP (16, false) (gst c1 (WN G) 9)).1 p = vRight G (WN G) i p := by
        unfold vRight tP
        simp only [Bool.false_or, Bool.or_assoc]
      rw [ev] at hfr
      have l16 : lN 16 = lo (16, false) := rfl
      simp (disch := first | assumption | omega) only [e_t_now, x_t_now_0, x_t_now_1, x_t_now_2, x_t_now_3, x_t_now_6, x_t_now_9, x_t_now_12, x_t_now_13, x_t_now_14, x_t_now_17, x_t_now_20, x_t_now_21, x_t_now_22, x_t_now_25, x_t_now_26, x_t_now_27, x_t_now_30, x_t_now_31, x_t_now_32, x_t_now_33, x_t_now_36, x_t_now_37, x_t_now_40, x_t_now_41, x_t_now_44, x_t_now_45, x_t_now_48, x_t_now_49, x_t_now_50, x_t_now_52, x_t_now_54, x_t_now_55, x_t_now_58, x_t_now_61, x_t_now_62, x_t_now_65, x_t_now_68, x_t_now_69, x_t_now_70, x_t_now_73, x_t_now_76, x_t_now_77, x_t_now_79, x_t_now_80, x_t_now_81, x_t_now_84, x_t_now_85, x_t_now_88, x_t_now_89, x_t_now_92, x_t_now_93, x_t_now_94, x_t_now_96, x_t_now_98, x_t_now_99, x_t_now_102, x_t_now_105, x_t_now_106, x_t_now_109, x_t_now_112, x_t_now_113, x_t_now_116, x_t_now_119, x_t_now_120, x_t_now_122, x_t_now_123, x_t_now_124, x_t_now_126, x_t_now_127, x_t_now_129, x_t_now_132, x_t_now_135, x_t_now_136, x_t_now_139, x_t_now_142, x_t_now_143, x_t_now_146, x_t_now_147, x_t_now_150, sp_withinN, XK_s, b01_eq0, q_eq, qn0, e0, e1, hp, Nat.zero_le, and_self, not_true_eq_false, not_false_eq_true, if_false, if_true, f9, q_add, e2, e4, e5, and_false, q_sub, e3, q_in, q_tn, true_and, hin, w1, l16, h16, hfr]
      exact QJ_i (sp_m_now20 (d := d + 4) hG hB hn hi hp2 (fun iv2 jv2 hF => Q2_i (INV_mk hM hS (FX_r _ _) hC (FW_FR hF) (FR_G hF hG) (ST_s hT))))
  · have fin : QJ (d + 12) t Ym_now [.ref 118, .int x, .int y] (some (.long (-9223372036854775808))) (mk iv jv) := by
      refine QJ_i ?_
      rw [sp_m_now_bad (d := d + 4) hG hB h]
      exact Q2_i (INV_r hT hC hG hM hS)
    unfold nowOk at h
    have e0 := toI_eq x (k := 0) (by decide)
    have e1 := toI_eq x (k := 1) (by decide)
    by_cases p1 : ((0 : Nat) : Int) ≤ y.toInt ∧ y.toInt ≤ ((1 : Nat) : Int)
    · have q0 : ¬ (x.toInt = ((0 : Nat) : Int)) := by omega
      have q1 : ¬ (x.toInt = ((1 : Nat) : Int)) := by omega
      have q2 : ¬ (((10 : Nat) : Int) ≤ x.toInt ∧ x.toInt ≤ ((9 + G 29 : Nat) : Int)) := by omega
      have q3 : ¬ (((20 : Nat) : Int) ≤ x.toInt ∧ x.toInt ≤ ((19 + G 29 : Nat) : Int)) := by omega
      simp (disch := first | assumption | omega) only [e_t_now, x_t_now_0, x_t_now_1, x_t_now_2, x_t_now_3, x_t_now_6, x_t_now_9, x_t_now_12, x_t_now_13, x_t_now_14, x_t_now_17, x_t_now_20, x_t_now_21, x_t_now_22, x_t_now_25, x_t_now_26, x_t_now_27, x_t_now_30, x_t_now_31, x_t_now_32, x_t_now_33, x_t_now_36, x_t_now_37, x_t_now_40, x_t_now_41, x_t_now_44, x_t_now_45, x_t_now_48, x_t_now_49, x_t_now_50, x_t_now_52, x_t_now_54, x_t_now_55, x_t_now_58, x_t_now_61, x_t_now_62, x_t_now_65, x_t_now_68, x_t_now_69, x_t_now_70, x_t_now_73, x_t_now_76, x_t_now_77, x_t_now_79, x_t_now_80, x_t_now_81, x_t_now_84, x_t_now_85, x_t_now_88, x_t_now_89, x_t_now_92, x_t_now_93, x_t_now_94, x_t_now_96, x_t_now_98, x_t_now_99, x_t_now_102, x_t_now_105, x_t_now_106, x_t_now_109, x_t_now_112, x_t_now_113, x_t_now_116, x_t_now_119, x_t_now_120, x_t_now_122, x_t_now_123, x_t_now_124, x_t_now_126, x_t_now_127, x_t_now_129, x_t_now_132, x_t_now_135, x_t_now_136, x_t_now_139, x_t_now_142, x_t_now_143, x_t_now_146, x_t_now_147, x_t_now_150, sp_within, XK_s, b01_eq0, e0, e1, eq_true p1, eq_false q0, eq_false q1, eq_false q2, eq_false q3, not_true_eq_false, not_false_eq_true, if_false, if_true, f9, q_add]
      exact fin
    · simp (disch := first | assumption | omega) only [e_t_now, x_t_now_0, x_t_now_1, x_t_now_2, x_t_now_3, x_t_now_6, x_t_now_9, x_t_now_12, x_t_now_13, x_t_now_14, x_t_now_17, x_t_now_20, x_t_now_21, x_t_now_22, x_t_now_25, x_t_now_26, x_t_now_27, x_t_now_30, x_t_now_31, x_t_now_32, x_t_now_33, x_t_now_36, x_t_now_37, x_t_now_40, x_t_now_41, x_t_now_44, x_t_now_45, x_t_now_48, x_t_now_49, x_t_now_50, x_t_now_52, x_t_now_54, x_t_now_55, x_t_now_58, x_t_now_61, x_t_now_62, x_t_now_65, x_t_now_68, x_t_now_69, x_t_now_70, x_t_now_73, x_t_now_76, x_t_now_77, x_t_now_79, x_t_now_80, x_t_now_81, x_t_now_84, x_t_now_85, x_t_now_88, x_t_now_89, x_t_now_92, x_t_now_93, x_t_now_94, x_t_now_96, x_t_now_98, x_t_now_99, x_t_now_102, x_t_now_105, x_t_now_106, x_t_now_109, x_t_now_112, x_t_now_113, x_t_now_116, x_t_now_119, x_t_now_120, x_t_now_122, x_t_now_123, x_t_now_124, x_t_now_126, x_t_now_127, x_t_now_129, x_t_now_132, x_t_now_135, x_t_now_136, x_t_now_139, x_t_now_142, x_t_now_143, x_t_now_146, x_t_now_147, x_t_now_150, sp_within, XK_s, b01_eq0, eq_false p1, not_false_eq_true, if_true]
      exact fin
theorem pr_would (hI : INV t iv jv) (x y z : Int32) : XM (d + 12) Yt_would [.ref 0, .int x, .int y, .int z] iv jv (QJ (d + 12) t Ym_would [.ref 118, .int x, .int y, .int z]) := by
  obtain ⟨G, hT, hC, hG, hM, hS⟩ := hI
  have hB := hT.1
  have hn := hT.2.2.2.1
  obtain ⟨cF, cp, ca, cb, ⟨wr, ws⟩, ck, ci⟩ := cr1 hC
  have hw : shp 8 = (4, 4) := by decide
  have hw1 : shp (8 + 1) = (17, 9) := by decide
  have hv : shp 80 = (4, 4) := by decide
  have hv1 : shp (80 + 1) = (17, 9) := by decide
  by_cases h : isIt G x ∧ i01 y ∧ i01 z
  · obtain ⟨i, hi, hi8, rfl⟩ := natIt hB h.1
    obtain ⟨r, hr, rfl⟩ := nat8 (m := 1) (x := y) h.2.1 (by decide)
    obtain ⟨p, hp, rfl⟩ := nat8 (m := 1) (x := z) h.2.2 (by decide)
    obtain ⟨t0, t1, t2⟩ := sI1 hi8
    obtain ⟨f8, fr, ft⟩ := ci i hi
    have oI := fun (Q : Option Value → mH → Prop) => sp_oIN (d := d + 9) (jv := jv) (Q := Q) (show i < 2147483648 from by omega) isB1 hC.1 hB
    have fin : ∀ jv1, FJ 80 jv jv1 → QJ (d + 12) t Ym_would [.ref 118, .int (nI i), .int (nI r), .int (nI p)] (some (.long (vWould G (WN G) i r p))) (mk iv jv1) := fun jv1 hF => by
      have hX : FX iv jv iv jv1 := ⟨fun _ _ _ => rfl, fun q k e => hF q k (by omega) (by omega)⟩
      have hC1 : CR 1 G iv jv1 := CR_eq hC hB (fun _ _ _ _ => rfl) (fun q k e1 e2 => hF q k (by omega) (by omega))
      exact QJ_i (sp_m_would (d := d + 4) (FX_G hX hG) hB hn hi (by omega) (by omega) (fun iv2 jv2 hF2 => Q2_i (INV_mk hM hS hX hC1 (FW_FR hF2) (FR_G hF2 (FX_G hX hG)) (ST_s hT))))
    simp (disch := first | assumption | omega) only [e_t_would, x_t_would_0, x_t_would_1, x_t_would_4, x_t_would_5, x_t_would_8, x_t_would_11, x_t_would_12, x_t_would_13, x_t_would_14, x_t_would_17, x_t_would_20, x_t_would_21, x_t_would_22, x_t_would_23, x_t_would_26, x_t_would_29, x_t_would_32, x_t_would_33, x_t_would_34, x_t_would_37, x_t_would_40, x_t_would_42, x_t_would_44, x_t_would_45, x_t_would_48, x_t_would_51, x_t_would_54, x_t_would_56, x_t_would_57, x_t_would_60, x_t_would_63, x_t_would_64, x_t_would_65, x_t_would_66, x_t_would_69, x_t_would_72, x_t_would_74, x_t_would_75, x_t_would_78, x_t_would_81, x_t_would_84, oI, sp_withinN, XK_s, b01_eq0, hi, hr, hp, Nat.zero_le, and_self, not_true_eq_false, if_false]
    refine sp_w_copyFrom (d := d + 10) (f := WN G) hv hv1 hw hw1 (by omega) (by omega) ⟨wr, ws⟩ (fun jv1 hF1 hW1 => ?_)
    simp (disch := first | assumption | omega) only [XK_n, x_t_would_0, x_t_would_1, x_t_would_4, x_t_would_5, x_t_would_8, x_t_would_11, x_t_would_12, x_t_would_13, x_t_would_14, x_t_would_17, x_t_would_20, x_t_would_21, x_t_would_22, x_t_would_23, x_t_would_26, x_t_would_29, x_t_would_32, x_t_would_33, x_t_would_34, x_t_would_37, x_t_would_40, x_t_would_42, x_t_would_44, x_t_would_45, x_t_would_48, x_t_would_51, x_t_would_54, x_t_would_56, x_t_would_57, x_t_would_60, x_t_would_63, x_t_would_64, x_t_would_65, x_t_would_66, x_t_would_69, x_t_would_72, x_t_would_74, x_t_would_75, x_t_would_78, x_t_would_81, x_t_would_84, q_in, q_tn, true_and]
    refine sp_w_go (d := d + 7) (f := WN G) (R := rgt G i) (c := cf G i r) hv hv1 t0 t1 (by omega) (by omega) (WN_lt hB) (ml_nz (WN_nz hn)) fr (fun l _ => rgt_in G i l) (fun l _ => rfl) hW1.1 (fun ha jv2 hF2 hW2 => ?_) (fun ha jv2 hF2 => ?_)
    · have ev : vWould G (WN G) i r p = vMean (dv (ml G i r (WN G))) p := by unfold vWould; rw [if_neg (by rw [ha]; decide)]
      rw [ev] at fin
      have hm := fun (Q : Option Value → mH → Prop) => sp_w_mean (d := d + 8) (iv := iv) (jv := jv2) (Q := Q) (p := p) (f := dv (ml G i r (WN G))) hv hW2.2 (dv_nz (ml_nz (WN_nz hn))) (by omega)
      simp (disch := first | assumption | omega) only [XK_s, x_t_would_0, x_t_would_1, x_t_would_4, x_t_would_5, x_t_would_8, x_t_would_11, x_t_would_12, x_t_would_13, x_t_would_14, x_t_would_17, x_t_would_20, x_t_would_21, x_t_would_22, x_t_would_23, x_t_would_26, x_t_would_29, x_t_would_32, x_t_would_33, x_t_would_34, x_t_would_37, x_t_would_40, x_t_would_42, x_t_would_44, x_t_would_45, x_t_would_48, x_t_would_51, x_t_would_54, x_t_would_56, x_t_would_57, x_t_would_60, x_t_would_63, x_t_would_64, x_t_would_65, x_t_would_66, x_t_would_69, x_t_would_72, x_t_would_74, x_t_would_75, x_t_would_78, x_t_would_81, x_t_would_84, n10, if_false, hm]
      exact fin jv2 (FJ_t hF1 hF2)
    · have ev : vWould G (WN G) i r p = -9223372036854775808 := by unfold vWould; rw [if_pos ha]
      rw [ev] at fin
      simp (disch := first | assumption | omega) only [XK_s, x_t_would_0, x_t_would_1, x_t_would_4, x_t_would_5, x_t_would_8, x_t_would_11, x_t_would_12, x_t_would_13, x_t_would_14, x_t_would_17, x_t_would_20, x_t_would_21, x_t_would_22, x_t_would_23, x_t_would_26, x_t_would_29, x_t_would_32, x_t_would_33, x_t_would_34, x_t_would_37, x_t_would_40, x_t_would_42, x_t_would_44, x_t_would_45, x_t_would_48, x_t_would_51, x_t_would_54, x_t_would_56, x_t_would_57, x_t_would_60, x_t_would_63, x_t_would_64, x_t_would_65, x_t_would_66, x_t_would_69, x_t_would_72, x_t_would_74, x_t_would_75, x_t_would_78, x_t_would_81, x_t_would_84, if_true]
      exact fin jv2 (FJ_t hF1 hF2)
  · have fin : QJ (d + 12) t Ym_would [.ref 118, .int x, .int y, .int z] (some (.long (-9223372036854775808))) (mk iv jv) := by
      refine QJ_i ?_
      rw [sp_m_would_bad (d := d + 4) hG hB h]
      exact Q2_i (INV_r hT hC hG hM hS)
    unfold isIt i01 at h
    by_cases p1 : 0 ≤ x.toInt ∧ x.toInt < (G 29 : Int)
    · by_cases p2 : ((0 : Nat) : Int) ≤ y.toInt ∧ y.toInt ≤ ((1 : Nat) : Int)
      · have p3 : ¬ (((0 : Nat) : Int) ≤ z.toInt ∧ z.toInt ≤ ((1 : Nat) : Int)) := by omega
        simp (disch := first | assumption | omega) only [e_t_would, x_t_would_0, x_t_would_1, x_t_would_4, x_t_would_5, x_t_would_8, x_t_would_11, x_t_would_12, x_t_would_13, x_t_would_14, x_t_would_17, x_t_would_20, x_t_would_21, x_t_would_22, x_t_would_23, x_t_would_26, x_t_would_29, x_t_would_32, x_t_would_33, x_t_would_34, x_t_would_37, x_t_would_40, x_t_would_42, x_t_would_44, x_t_would_45, x_t_would_48, x_t_would_51, x_t_would_54, x_t_would_56, x_t_would_57, x_t_would_60, x_t_would_63, x_t_would_64, x_t_would_65, x_t_would_66, x_t_would_69, x_t_would_72, x_t_would_74, x_t_would_75, x_t_would_78, x_t_would_81, x_t_would_84, sp_o_isItem x isB1 hC.1 hB, sp_within, XK_s, b01_eq0, eq_true p1, eq_true p2, eq_false p3, not_true_eq_false, not_false_eq_true, if_false, if_true]
        exact fin
      · simp (disch := first | assumption | omega) only [e_t_would, x_t_would_0, x_t_would_1, x_t_would_4, x_t_would_5, x_t_would_8, x_t_would_11, x_t_would_12, x_t_would_13, x_t_would_14, x_t_would_17, x_t_would_20, x_t_would_21, x_t_would_22, x_t_would_23, x_t_would_26, x_t_would_29, x_t_would_32, x_t_would_33, x_t_would_34, x_t_would_37, x_t_would_40, x_t_would_42, x_t_would_44, x_t_would_45, x_t_would_48, x_t_would_51, x_t_would_54, x_t_would_56, x_t_would_57, x_t_would_60, x_t_would_63, x_t_would_64, x_t_would_65, x_t_would_66, x_t_would_69, x_t_would_72, x_t_would_74, x_t_would_75, x_t_would_78, x_t_would_81, x_t_would_84, sp_o_isItem x isB1 hC.1 hB, sp_within, XK_s, b01_eq0, eq_true p1, eq_false p2, not_true_eq_false, not_false_eq_true, if_false, if_true]
        exact fin
    · simp (disch := first | assumption | omega) only [e_t_would, x_t_would_0, x_t_would_1, x_t_would_4, x_t_would_5, x_t_would_8, x_t_would_11, x_t_would_12, x_t_would_13, x_t_would_14, x_t_would_17, x_t_would_20, x_t_would_21, x_t_would_22, x_t_would_23, x_t_would_26, x_t_would_29, x_t_would_32, x_t_would_33, x_t_would_34, x_t_would_37, x_t_would_40, x_t_would_42, x_t_would_44, x_t_would_45, x_t_would_48, x_t_would_51, x_t_would_54, x_t_would_56, x_t_would_57, x_t_would_60, x_t_would_63, x_t_would_64, x_t_would_65, x_t_would_66, x_t_would_69, x_t_would_72, x_t_would_74, x_t_would_75, x_t_would_78, x_t_would_81, x_t_would_84, sp_o_isItem x isB1 hC.1 hB, XK_s, b01_eq0, eq_false p1, not_false_eq_true, if_true]
      exact fin
end PAIR5
