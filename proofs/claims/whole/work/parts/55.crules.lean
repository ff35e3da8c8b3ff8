section CRULES
variable {d : Nat} {iv : mI} {jv : mJ} {Q : Option Value → mH → Prop} {G : Nat → Nat} {B : Nat}
theorem mul_lo (a b : Nat × Bool) : tP a b = (tv a.1 b.1, (a.2 || b.2) || tf a.1 b.1) := rfl
theorem b01_of (c : Bool) : (if c = true then nI 1 else nI 0) = b01 (c = true) := rfl
theorem sp_o_isSure (hb : isB B) (hC : CR B G iv jv) (hB : IB G) : XM (d + 2) Yo_isSure [.ref B, .int (nI (G 25))] iv jv Q = Q (some (.int (rlV G 1))) (mk iv jv) := by
  obtain ⟨cf, cp, ca, cb, ⟨wr, w1, w2, w3⟩, ck, cm, ci, ch⟩ := hC
  obtain ⟨s0, s1, s2, s3, s4, s5, s6, s7, s8, s9, s10, s11⟩ := sB hb
  have b8 := hB.2.2.2.2.2.2.2.1 1 (by decide)
  simp only [Nat.reduceAdd] at b8
  have hm := mdN_le G
  have hwl := WN_lt hB
  have hwm := hwl (mdN G) (by omega)
  have wm := wr (mdN G) (by omega)
  rw [lo_n] at wm
  have hh := fun (Q : Option Value → mH → Prop) => sp_w_heaviest (d := d) (iv := iv) (Q := Q) s7 s8 hwl wr
  rw [show mdF (WN G) 8 = mdN G from rfl] at hh
  have t1 := fun (Q : Option Value → mH → Prop) => sp_e_times (d := d) (iv := iv) (jv := jv) (Q := Q) (a := (WN G (mdN G), false)) (b := (100, false)) hwm (by decide)
  have t2 := fun (Q : Option Value → mH → Prop) => sp_e_times (d := d) (iv := iv) (jv := jv) (Q := Q) (a := An G) (b := (G 25, false)) (An_lt G) (by dsimp only; omega)
  have l1 := tP_lt (WN G (mdN G), false) (100, false)
  have l2 := tP_lt (An G) (G 25, false)
  have w1' : jv (B + 7) 1 = lo (An G) := w1
  have e2 : (B + 8 = B + 7 + 1) := rfl
  have er : rlV G 1 = if suF G = true then -7 else b01 (suP G = true) := rfl
  have f1 : (tP (WN G (mdN G), false) (100, false)).2 = tf (WN G (mdN G)) 100 := by unfold tP; simp
  have f2 : (tP (An G) (G 25, false)).2 = ((An G).2 || tf (An G).1 (G 25)) := by unfold tP; simp
  have v1 : (tP (WN G (mdN G), false) (100, false)).1 = tv (WN G (mdN G)) 100 := rfl
  have v2 : (tP (An G) (G 25, false)).1 = tv (An G).1 (G 25) := rfl
  have f3 : suF G = ((tP (WN G (mdN G), false) (100, false)).2 || (tP (An G) (G 25, false)).2) := by rw [f1, f2]; unfold suF; rw [Bool.or_assoc]
  have h100 : lN 100 = lo (100, false) := rfl
  simp (disch := first | assumption | omega) only [e_o_isSure, x_o_isSure_0, x_o_isSure_1, x_o_isSure_4, x_o_isSure_7, x_o_isSure_8, x_o_isSure_11, x_o_isSure_14, x_o_isSure_15, x_o_isSure_18, x_o_isSure_21, x_o_isSure_22, x_o_isSure_23, x_o_isSure_26, x_o_isSure_29, x_o_isSure_30, x_o_isSure_31, x_o_isSure_34, x_o_isSure_36, x_o_isSure_37, x_o_isSure_38, x_o_isSure_39, x_o_isSure_42, x_o_isSure_44, x_o_isSure_45, x_o_isSure_46, x_o_isSure_49, x_o_isSure_51, x_o_isSure_52, x_o_isSure_53, x_o_isSure_55, x_o_isSure_56, x_o_isSure_59, x_o_isSure_60, x_o_isSure_63, x_o_isSure_64, s0, s7, s8, true_and, hh, XK_s, q_in, q_tn, wm, h100, t1, w1', q_i2l, lo_n, t2, c_lt, c_ge]
  rw [er, f3]
  generalize tP (WN G (mdN G), false) (100, false) = X at *
  generalize tP (An G) (G 25, false) = Y at *
  by_cases p1 : X.2 = true
  · simp (disch := first | assumption | omega) only [← lo_n, lo_lt0, lo_ge0, p1, if_true, if_false, Bool.true_or, not_true_eq_false]
  · by_cases p2 : Y.2 = true
    · simp (disch := first | assumption | omega) only [← lo_n, lo_lt0, lo_ge0, p1, p2, if_true, if_false, Bool.or_true, not_true_eq_false, not_false_eq_true, Bool.false_eq_true]
    · have p1' : X.2 = false := by simpa using p1
      have p2' : Y.2 = false := by simpa using p2
      have e3 := lo_f p1'
      have e4 := lo_f p2'
      have hs : suP G = decide (Y.1 ≤ X.1) := by unfold suP; rw [v1, v2]
      simp (disch := first | assumption | omega) only [← lo_n, lo_lt0, lo_ge0, p1', p2', if_true, if_false, Bool.or_false, not_true_eq_false, not_false_eq_true, Bool.false_eq_true]
      rw [e3, e4, hs]
      by_cases h : Y.1 ≤ X.1
      · have h' : ¬ X.1 < Y.1 := by omega
        simp (disch := first | assumption | omega) only [q_llt, q_lle, h, h', if_true, if_false, decide_true, b01]
      · have h' : X.1 < Y.1 := by omega
        simp (disch := first | assumption | omega) only [q_llt, q_lle, h, h', if_true, if_false, decide_false, b01, Bool.false_eq_true]
end CRULES
