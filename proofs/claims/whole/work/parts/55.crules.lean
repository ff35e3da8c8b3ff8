section CRULES
variable {d : Nat} {iv : mI} {jv : mJ} {Q : Option Value → mH → Prop} {G : Nat → Nat} {B : Nat}
theorem mul_lo (a b : Nat × Bool) : tP a b = (tv a.1 b.1, (a.2 || b.2) || tf a.1 b.1) := rfl
theorem b01_of (c : Bool) : (if c = true then nI 1 else nI 0) = b01 (c = true) := rfl
theorem sp_o_isSure (hb : isB B) (hC : CR B G iv jv) (hB : IB G) : XM (d + 2) Yo_isSure [.ref B, .int (nI (G 25))] iv jv Q = Q (some (.int (rlV G 1))) (mk iv jv) := by
  obtain ⟨cf, cp, ca, cb, ⟨wr, w1, w2, w3⟩, ck, cm, ci, ch⟩ := hC
  obtain ⟨s0, s1, s2, s3, s4, s5, s6, s7, s8, s9, s10, s11⟩ := sB hb
  have b8 := hB.2.2.2.2.2.2.2.1 1 (by decide)
  simp only [Nat.reduceAdd] at b8
  have hm := mdN_le G
  have hwl := WN_lt hB
  have hwm := hwl (mdN G) (by omega)
  have wm := wr (mdN G) (by omega)
  rw [lo_n] at wm
  have hh := fun (Q : Option Value → mH → Prop) => sp_w_heaviest (d := d) (iv := iv) (Q := Q) s7 s8 hwl wr
  rw [show mdF (WN G) 8 = mdN G from rfl] at hh
  have t1 := fun (Q : Option Value → mH → Prop) => sp_e_times (d := d) (iv := iv) (jv := jv) (Q := Q) (a := (WN G (mdN G), false)) (b := (100, false)) hwm (by decide)
  have t2 := fun (Q : Option Value → mH → Prop) => sp_e_times (d := d) (iv := iv) (jv := jv) (Q := Q) (a := An G) (b := (G 25, false)) (An_lt G) (by dsimp only; omega)
  have l1 := tP_lt (WN G (mdN G), false) (100, false)
  have l2 := tP_lt (An G) (G 25, false)
  have w1' : jv (B + 7) 1 = lo (An G) := w1
  have e2 : (B + 8 = B + 7 + 1) := rfl
  have er : rlV G 1 = if suF G = true then -7 else b01 (suP G = true) := rfl
  have f1 : (tP (WN G (mdN G), false) (100, false)).2 = tf (WN G (mdN G)) 100 := by unfold tP; simp
  have f2 : (tP (An G) (G 25, false)).2 = ((An G).2 || tf (An G).1 (G 25)) := by unfold tP; simp
  have v1 : (tP (WN G (mdN G), false) (100, false)).1 = tv (WN G (mdN G)) 100 := rfl
  have v2 : (tP (An G) (G 25, false)).1 = tv (An G).1 (G 25) := rfl
  have f3 : suF G = ((tP (WN G (mdN G), false) (100, false)).2 || (tP (An G) (G 25, false)).2) := by rw [f1, f2]; unfold suF; rw [Bool.or_assoc]
  have h100 : lN 100 = lo (100, false) := rfl
  simp (disch := first | assumption | omega) only [e_o_isSure, x_o_isSure_0, x_o_isSure_1, x_o_isSure_4, x_o_isSure_7, x_o_isSure_8, x_o_isSure_11, x_o_isSure_14, x_o_isSure_15, x_o_isSure_18, x_o_isSure_21, x_o_isSure_22, x_o_isSure_23, x_o_isSure_26, x_o_isSure_29, x_o_isSure_30, x_o_isSure_31, x_o_isSure_34, x_o_isSure_36, x_o_isSure_37, x_o_isSure_38, x_o_isSure_39, x_o_isSure_42, x_o_isSure_44, x_o_isSure_45, x_o_isSure_46, x_o_isSure_49, x_o_isSure_51, x_o_isSure_52, x_o_isSure_53, x_o_isSure_55, x_o_isSure_56, x_o_isSure_59, x_o_isSure_60, x_o_isSure_63, x_o_isSure_64, s0, s7, s8, true_and, hh, XK_s, q_in, q_tn, wm, h100, t1, w1', q_i2l, lo_n, t2, c_lt, c_ge]
  rw [er, f3]
  generalize tP (WN G (mdN G), false) (100, false) = X at *
  generalize tP (An G) (G 25, false) = Y at *
  by_cases p1 : X.2 = true
  · simp (disch := first | assumption | omega) only [← lo_n, lo_lt0, lo_ge0, p1, if_true, if_false, Bool.true_or, not_true_eq_false]
  · by_cases p2 : Y.2 = true
    · simp (disch := first | assumption | omega) only [← lo_n, lo_lt0, lo_ge0, p1, p2, if_true, if_false, Bool.or_true, not_true_eq_false, not_false_eq_true, Bool.false_eq_true]
    · have p1' : X.2 = false := by simpa using p1
      have p2' : Y.2 = false := by simpa using p2
      have e3 := lo_f p1'
      have e4 := lo_f p2'
      have hs : suP G = decide (Y.1 ≤ X.1) := by unfold suP; rw [v1, v2]
      simp (disch := first | assumption | omega) only [← lo_n, lo_lt0, lo_ge0, p1', p2', if_true, if_false, Bool.or_false, not_true_eq_false, not_false_eq_true, Bool.false_eq_true]
      rw [e3, e4, hs]
      by_cases h : Y.1 ≤ X.1
      · have h' : ¬ X.1 < Y.1 := by omega
        simp (disch := first | assumption | omega) only [q_llt, q_lle, h, h', if_true, if_false, decide_true, b01]
      · have h' : X.1 < Y.1 := by omega
        simp (disch := first | assumption | omega) only [q_llt, q_lle, h, h', if_true, if_false, decide_false, b01, Bool.false_eq_true]
theorem sp_o_isNarrow (hb : isB B) (hC : CR B G iv jv) (hB : IB G) : XM (d + 3) Yo_isNarrow [.ref B, .int (nI (G 26))] iv jv Q = Q (some (.int (rlV G 2))) (mk iv jv) := by
  obtain ⟨cf, cp, ca, cb, ⟨wr, ws⟩, ck, cm, ci, ch⟩ := hC
  obtain ⟨s0, s1, s2, s3, s4, s5, s6, s7, s8, s9, s10, s11⟩ := sB hb
  have b8 := hB.2.2.2.2.2.2.2.1 2 (by decide)
  simp only [Nat.reduceAdd] at b8
  have ha := fun (Q : Option Value → mH → Prop) => sp_w_spreadAbove (d := d) (iv := iv) (Q := Q) s7 ws
  have hbw := fun (Q : Option Value → mH → Prop) => sp_w_spreadBelow (d := d) (iv := iv) (Q := Q) s7 ws
  have la : (abP (WN G)).1 < 9223372036854775808 := by
    have h1 : (sqP (WN G)).1 < 9223372036854775808 := tP_lt _ _
    show (sqP (WN G)).1 - (mmP (WN G)).1 < _
    omega
  have lb : (bbP (WN G)).1 < 9223372036854775808 := tP_lt _ _
  have t1 := fun (Q : Option Value → mH → Prop) => sp_e_times (d := d + 1) (iv := iv) (jv := jv) (Q := Q) (a := abP (WN G)) (b := (10, false)) la (by decide)
  have t2 := fun (Q : Option Value → mH → Prop) => sp_e_times (d := d + 1) (iv := iv) (jv := jv) (Q := Q) (a := bbP (WN G)) (b := (G 26, false)) lb (by dsimp only; omega)
  have l1 := tP_lt (abP (WN G)) (10, false)
  have l2 := tP_lt (bbP (WN G)) (G 26, false)
  have er : rlV G 2 = if nrF G = true then -7 else b01 (nrP G = true) := rfl
  have v1 : (tP (abP (WN G)) (10, false)).1 = tv (abP (WN G)).1 10 := rfl
  have v2 : (tP (bbP (WN G)) (G 26, false)).1 = tv (spL (WN G)) (G 26) := rfl
  have f1 : (tP (abP (WN G)) (10, false)).2 = (abB (WN G) || tf (abP (WN G)).1 10) := by unfold tP abP; simp
  have f2 : (tP (bbP (WN G)) (G 26, false)).2 = ((bbP (WN G)).2 || tf (spL (WN G)) (G 26)) := by unfold tP; simp; rfl
  have hab := abbb (WN G)
  have f3 : nrF G = ((tP (abP (WN G)) (10, false)).2 || (tP (bbP (WN G)) (G 26, false)).2) := by
    rw [f1, f2]; unfold nrF
    rw [← hab]
    cases ea : abB (WN G)
    · rw [abP_n ea]
      cases (bbP (WN G)).2 <;> cases tf (spN (WN G)) 10 <;> cases tf (spL (WN G)) (G 26) <;> rfl
    · simp
  have v3 : abB (WN G) = false → tv (abP (WN G)).1 10 = tv (spN (WN G)) 10 := fun e => by rw [abP_n e]
  have h10 : lN 10 = lo (10, false) := rfl
  simp (disch := first | assumption | omega) only [e_o_isNarrow, x_o_isNarrow_0, x_o_isNarrow_1, x_o_isNarrow_4, x_o_isNarrow_7, x_o_isNarrow_10, x_o_isNarrow_13, x_o_isNarrow_14, x_o_isNarrow_15, x_o_isNarrow_18, x_o_isNarrow_21, x_o_isNarrow_22, x_o_isNarrow_23, x_o_isNarrow_26, x_o_isNarrow_28, x_o_isNarrow_29, x_o_isNarrow_30, x_o_isNarrow_31, x_o_isNarrow_34, x_o_isNarrow_36, x_o_isNarrow_37, x_o_isNarrow_38, x_o_isNarrow_41, x_o_isNarrow_43, x_o_isNarrow_44, x_o_isNarrow_45, x_o_isNarrow_47, x_o_isNarrow_48, x_o_isNarrow_51, x_o_isNarrow_52, x_o_isNarrow_55, x_o_isNarrow_56, s0, s7, true_and, ha, hbw, XK_s, h10, t1, q_i2l, lo_n, t2, c_lt, c_ge]
  rw [er, f3]
  generalize tP (abP (WN G)) (10, false) = X at *
  generalize tP (bbP (WN G)) (G 26, false) = Y at *
  by_cases p1 : X.2 = true
  · simp (disch := first | assumption | omega) only [← lo_n, lo_lt0, lo_ge0, p1, if_true, if_false, Bool.true_or, not_true_eq_false]
  · by_cases p2 : Y.2 = true
    · simp (disch := first | assumption | omega) only [← lo_n, lo_lt0, lo_ge0, p1, p2, if_true, if_false, Bool.or_true, not_true_eq_false, not_false_eq_true, Bool.false_eq_true]
    · have p1' : X.2 = false := by simpa using p1
      have p2' : Y.2 = false := by simpa using p2
      have e3 := lo_f p1'
      have e4 := lo_f p2'
      have ea : abB (WN G) = false := by rw [p1'] at f1; exact (orf f1.symm).1
      have hs : nrP G = decide (X.1 ≤ Y.1) := by unfold nrP; rw [v1, v2, v3 ea]
      simp (disch := first | assumption | omega) only [← lo_n, lo_lt0, lo_ge0, p1', p2', if_true, if_false, Bool.or_false, not_true_eq_false, not_false_eq_true, Bool.false_eq_true]
      rw [e3, e4, hs]
      by_cases h : X.1 ≤ Y.1
      · have h' : ¬ Y.1 < X.1 := by omega
        simp (disch := first | assumption | omega) only [c_gt, c_le, q_llt, q_lle, h, h', if_true, if_false, decide_true, b01]
      · have h' : Y.1 < X.1 := by omega
        simp (disch := first | assumption | omega) only [c_gt, c_le, q_llt, q_lle, h, h', if_true, if_false, decide_false, b01, Bool.false_eq_true]
theorem poR_t (G : Nat → Nat) (bd : Nat) : ∀ n i, (poR G bd n i true).2 = true
  | 0, _ => rfl
  | n + 1, i => by rw [poR_s, if_pos rfl]
theorem sp_free {i : Nat} (hb : isB B) (hC : CR B G iv jv) (hB : IB G) (hi : i < G 29) : XM (d + 1) Yi_isFree [.ref (B + 12 + 3 * i)] iv jv Q = Q (some (.int (b01 (frB G i = true)))) (mk iv jv) := by
  obtain ⟨cf, cp, ca, cb, cw, ck, cm, ci, ch⟩ := hC
  have hi8 : i < 8 := by have := hB.1; omega
  obtain ⟨t0, t1, t2⟩ := sI hb hi8
  obtain ⟨⟨f0, f1, f2, f3, f4, f5, f6, f7⟩, fr, ft⟩ := ci i hi
  rw [sp_i_isFree t0 (ch i hi8), b01_congr (e := frB G i = true)]
  rw [f6, f7, rep_m hB i, b01_eq0]
  unfold frB
  simp
  exact And.comm
theorem sp_inf {i : Nat} (hb : isB B) (hC : CR B G iv jv) (hB : IB G) (hi : i < G 29) : XM (d + 2) Yw_informs [.ref (B + 7), .ref (B + 12 + 3 * i)] iv jv Q = Q (some (.long (lo (Tn G i)))) (mk iv jv) := by
  obtain ⟨cf, cp, ca, cb, ⟨wr, ws⟩, ck, cm, ci, ch⟩ := hC
  obtain ⟨s0, s1, s2, s3, s4, s5, s6, s7, s8, s9, s10, s11⟩ := sB hb
  have hi8 : i < 8 := by have := hB.1; omega
  obtain ⟨t0, t1, t2⟩ := sI hb hi8
  obtain ⟨f8, fr, ft⟩ := ci i hi
  have hlt := lt_B hb
  exact sp_w_informs (T := tel G i) s7 s8 t0 t2 (by omega) (WN_lt hB) wr ft (fun l _ => tel_le hB hi8 l)
theorem lp_o_isPoor {bd : Nat} {i1 : Int32} (hb : isB B) (hC : CR B G iv jv) (hB : IB G) (hbd : bd < 9223372036854775808) : ∀ n i, i + n = G 29 → ∀ u5 u6, XT (d + 2) Yo_isPoor 25 [.ref B, .int i1, .long (lN bd), mW, .int (nI i), u5, u6] [] iv jv Q = Q (some (.int (if (poR G bd n i false).2 = true then -7 else b01 ((poR G bd n i false).1 = true)))) (mk iv jv) := by
  obtain ⟨⟨c4, c5, c6, c7, c9, c11, c14⟩, cp, ca, cb, cw, ck, cm, ci, ch⟩ := id hC
  obtain ⟨s0, s1, s2, s3, s4, s5, s6, s7, s8, s9, s10, s11⟩ := sB hb
  have b1 := hB.1
  have e18 : ((18 : Nat) = 18 ∨ (18 : Nat) = 19) = True := by simp
  intro n
  induction n with
  | zero =>
    intro i hi u5 u6
    obtain rfl : i = G 29 := by omega
    rw [x_o_isPoor_25]
    simp (disch := first | assumption | omega) only [x_o_isPoor_0, x_o_isPoor_1, x_o_isPoor_4, x_o_isPoor_7, x_o_isPoor_8, x_o_isPoor_9, x_o_isPoor_12, x_o_isPoor_13, x_o_isPoor_14, x_o_isPoor_15, x_o_isPoor_16, x_o_isPoor_19, x_o_isPoor_21, x_o_isPoor_22, x_o_isPoor_23, x_o_isPoor_27, x_o_isPoor_28, x_o_isPoor_31, x_o_isPoor_34, x_o_isPoor_35, x_o_isPoor_38, x_o_isPoor_40, x_o_isPoor_41, x_o_isPoor_44, x_o_isPoor_47, x_o_isPoor_50, x_o_isPoor_51, x_o_isPoor_54, x_o_isPoor_55, x_o_isPoor_58, x_o_isPoor_60, x_o_isPoor_61, x_o_isPoor_64, x_o_isPoor_66, x_o_isPoor_68, x_o_isPoor_69, x_o_isPoor_70, x_o_isPoor_73, x_o_isPoor_75, x_o_isPoor_76, x_o_isPoor_78, x_o_isPoor_79, x_o_isPoor_80, x_o_isPoor_83, x_o_isPoor_84, x_o_isPoor_85, x_o_isPoor_88, x_o_isPoor_91, x_o_isPoor_92, s0, true_and, c9, q_le, Nat.le_refl, if_true]
    rfl
  | succ n ih =>
    intro i hi u5 u6
    have h4 : ¬ G 29 ≤ i := by omega
    have hi8 : i < 8 := by omega
    obtain ⟨t0, t1, t2⟩ := sI hb hi8
    have hfree := fun (Q : Option Value → mH → Prop) => sp_free (d := d + 1) (iv := iv) (jv := jv) (Q := Q) (i := i) hb hC hB (by omega)
    have hinf := fun (Q : Option Value → mH → Prop) => sp_inf (d := d) (iv := iv) (jv := jv) (Q := Q) (i := i) hb hC hB (by omega)
    have tl := Tn_lt G i
    have h8 := ih (i + 1) (by omega)
    have e0 : poR G bd (n + 1) i false = if frB G i = true then (if bd ≤ (Tn G i).1 then (false, (Tn G i).2) else poR G bd n (i + 1) (Tn G i).2) else poR G bd n (i + 1) false := by
      rw [poR_s]; exact if_neg (fun z => Bool.noConfusion z)
    rw [e0]
    rw [x_o_isPoor_25]
    simp (disch := first | assumption | omega) only [x_o_isPoor_0, x_o_isPoor_1, x_o_isPoor_4, x_o_isPoor_7, x_o_isPoor_8, x_o_isPoor_9, x_o_isPoor_12, x_o_isPoor_13, x_o_isPoor_14, x_o_isPoor_15, x_o_isPoor_16, x_o_isPoor_19, x_o_isPoor_21, x_o_isPoor_22, x_o_isPoor_23, x_o_isPoor_27, x_o_isPoor_28, x_o_isPoor_31, x_o_isPoor_34, x_o_isPoor_35, x_o_isPoor_38, x_o_isPoor_40, x_o_isPoor_41, x_o_isPoor_44, x_o_isPoor_47, x_o_isPoor_50, x_o_isPoor_51, x_o_isPoor_54, x_o_isPoor_55, x_o_isPoor_58, x_o_isPoor_60, x_o_isPoor_61, x_o_isPoor_64, x_o_isPoor_66, x_o_isPoor_68, x_o_isPoor_69, x_o_isPoor_70, x_o_isPoor_73, x_o_isPoor_75, x_o_isPoor_76, x_o_isPoor_78, x_o_isPoor_79, x_o_isPoor_80, x_o_isPoor_83, x_o_isPoor_84, x_o_isPoor_85, x_o_isPoor_88, x_o_isPoor_91, x_o_isPoor_92, s0, s5, s7, e18, true_and, true_or, c9, q_le, h4, if_false, q_in, q_tn, rI hb, t0, hfree, hinf, XK_s, b01_eq0, c_lt, c_ge, lo_lt0, lo_ge0, q_add]
    by_cases p1 : frB G i = true
    · by_cases p2 : (Tn G i).2 = true
      · have hr : ∀ x : Prop, (if (if bd ≤ (Tn G i).1 then (false, (Tn G i).2) else poR G bd n (i + 1) (Tn G i).2).2 = true then (-7 : Int32) else b01 ((if bd ≤ (Tn G i).1 then (false, (Tn G i).2) else poR G bd n (i + 1) (Tn G i).2).1 = true)) = -7 := by
          intro _
          rw [p2]
          by_cases h : bd ≤ (Tn G i).1
          · rw [if_pos h]; rfl
          · rw [if_neg h, if_pos (poR_t G bd n (i + 1))]
        rw [if_pos p1, hr True]
        simp only [p1, p2, not_true_eq_false, if_true, if_false]
      · have p2' : (Tn G i).2 = false := by simpa using p2
        have el := lo_f p2'
        rw [if_pos p1, p2', el]
        by_cases h : bd ≤ (Tn G i).1
        · have h' : ¬ (Tn G i).1 < bd := by omega
          simp (disch := first | assumption | omega) only [p1, p2', Bool.false_eq_true, not_true_eq_false, not_false_eq_true, if_true, if_false, q_llt, q_lle, h, h']
          rfl
        · have h' : (Tn G i).1 < bd := by omega
          simp (disch := first | assumption | omega) only [p1, p2', Bool.false_eq_true, not_true_eq_false, not_false_eq_true, if_true, if_false, q_llt, q_lle, h, h']
          exact h8 _ _
    · rw [if_neg p1]
      simp only [p1, not_false_eq_true, if_true]
      exact h8 _ _
theorem sp_o_isPoor (hb : isB B) (hC : CR B G iv jv) (hB : IB G) : XM (d + 3) Yo_isPoor [.ref B, .int (nI (G 27))] iv jv Q = Q (some (.int (rlV G 3))) (mk iv jv) := by
  obtain ⟨cf, cp, ca, cb, ⟨wr, w1, w2, w3⟩, ck, cm, ci, ch⟩ := id hC
  obtain ⟨s0, s1, s2, s3, s4, s5, s6, s7, s8, s9, s10, s11⟩ := sB hb
  have b8 := hB.2.2.2.2.2.2.2.1 3 (by decide)
  simp only [Nat.reduceAdd] at b8
  have w1' : jv (B + 7) 1 = lo (An G) := w1
  have t2 := fun (Q : Option Value → mH → Prop) => sp_e_times (d := d + 1) (iv := iv) (jv := jv) (Q := Q) (a := An G) (b := (G 27, false)) (An_lt G) (by dsimp only; omega)
  have l2 := tP_lt (An G) (G 27, false)
  have f2 : (tP (An G) (G 27, false)).2 = ((An G).2 || tf (An G).1 (G 27)) := by unfold tP; simp
  have er : rlV G 3 = if (poR G (tv (An G).1 (G 27)) (G 29) 0 ((An G).2 || tf (An G).1 (G 27))).2 = true then -7 else b01 ((poR G (tv (An G).1 (G 27)) (G 29) 0 ((An G).2 || tf (An G).1 (G 27))).1 = true) := rfl
  simp (disch := first | assumption | omega) only [e_o_isPoor, x_o_isPoor_0, x_o_isPoor_1, x_o_isPoor_4, x_o_isPoor_7, x_o_isPoor_8, x_o_isPoor_9, x_o_isPoor_12, x_o_isPoor_13, x_o_isPoor_14, x_o_isPoor_15, x_o_isPoor_16, x_o_isPoor_19, x_o_isPoor_21, x_o_isPoor_22, x_o_isPoor_23, x_o_isPoor_27, x_o_isPoor_28, x_o_isPoor_31, x_o_isPoor_34, x_o_isPoor_35, x_o_isPoor_38, x_o_isPoor_40, x_o_isPoor_41, x_o_isPoor_44, x_o_isPoor_47, x_o_isPoor_50, x_o_isPoor_51, x_o_isPoor_54, x_o_isPoor_55, x_o_isPoor_58, x_o_isPoor_60, x_o_isPoor_61, x_o_isPoor_64, x_o_isPoor_66, x_o_isPoor_68, x_o_isPoor_69, x_o_isPoor_70, x_o_isPoor_73, x_o_isPoor_75, x_o_isPoor_76, x_o_isPoor_78, x_o_isPoor_79, x_o_isPoor_80, x_o_isPoor_83, x_o_isPoor_84, x_o_isPoor_85, x_o_isPoor_88, x_o_isPoor_91, x_o_isPoor_92, s0, s7, true_and, w1', q_i2l, lo_n, t2, XK_s, c_lt, c_ge]
  simp (disch := first | assumption | omega) only [← lo_n, lo_lt0, lo_ge0]
  rw [er, ← f2]
  by_cases p : (tP (An G) (G 27, false)).2 = true
  · rw [p, if_pos (poR_t _ _ _ _)]
    simp only [not_true_eq_false, if_true, if_false]
  · have p' : (tP (An G) (G 27, false)).2 = false := by simpa using p
    have el : lo (tP (An G) (G 27, false)) = lN (tv (An G).1 (G 27)) := lo_f p'
    rw [p', el]
    simp only [Bool.false_eq_true, not_false_eq_true, if_true, if_false]
    exact lp_o_isPoor hb hC hB (tv_lt _ _) (G 29) 0 (by omega) _ _
end CRULES
