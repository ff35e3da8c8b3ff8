section WEIGHTS
variable {d : Nat} {iv : mI} {jv : mJ} {Q : Option Value → mH → Prop} {f : Nat → Nat} {w : Nat}
theorem pP_lt (a b : Nat × Bool) : (pP a b).1 < 9223372036854775808 := pv_lt _ _
theorem tP_lt (a b : Nat × Bool) : (tP a b).1 < 9223372036854775808 := tv_lt _ _
theorem gst_p (c f : Nat → Nat) (n : Nat) : pP (gst c f n) (tP (c n, false) (f n, false)) = gst c f (n + 1) := by
  rw [gst_s]; unfold pP tP
  simp
theorem gst_1 {f : Nat → Nat} {n : Nat} (h : f n < 9223372036854775808) : pP (gst c1 f n) (f n, false) = gst c1 f (n + 1) := by
  rw [gst1_s h]; unfold pP
  simp
/-- the sums of a WEIGHTS, as far as they go -/
def WS (w : Nat) (f : Nat → Nat) (n : Nat) (jv : mJ) : Prop := jv w 1 = lo (gst c1 f n) ∧ jv w 2 = lo (gst cl f n) ∧ jv w 3 = lo (gst cq f n)
def WR (w : Nat) (f : Nat → Nat) (jv : mJ) : Prop := (∀ l, l < 9 → jv (w + 1) l = lN (f l)) ∧ WS w f 9 jv
theorem lp_w_sumUp (hw : shp w = (4, 4)) (hw1 : shp (w + 1) = (17, 9)) (hf : ∀ l, l < 9 → f l < 9223372036854775808) (hW : ∀ l, l < 9 → jv (w + 1) l = lN (f l)) (hQ : ∀ jv', (∀ q k, q ≠ w → jv' q k = jv q k) → WS w f 9 jv' → Q none (mk iv jv')) : ∀ n l, l + n = 9 → ∀ jv1, (∀ q k, q ≠ w → jv1 q k = jv q k) → WS w f l jv1 → XT (d + 1) Yw_sumUp 17 [.ref w, .int (nI l)] [] iv jv1 Q := by
  intro n
  induction n with
  | zero =>
    intro l hl jv1 hF hS
    obtain rfl : l = 9 := by omega
    rw [x_w_sumUp_17]
    simp (disch := first | assumption | omega) only [x_w_sumUp_0, x_w_sumUp_1, x_w_sumUp_2, x_w_sumUp_5, x_w_sumUp_6, x_w_sumUp_7, x_w_sumUp_10, x_w_sumUp_11, x_w_sumUp_12, x_w_sumUp_15, x_w_sumUp_16, x_w_sumUp_18, x_w_sumUp_20, x_w_sumUp_23, x_w_sumUp_24, x_w_sumUp_25, x_w_sumUp_28, x_w_sumUp_29, x_w_sumUp_32, x_w_sumUp_33, x_w_sumUp_34, x_w_sumUp_37, x_w_sumUp_40, x_w_sumUp_41, x_w_sumUp_42, x_w_sumUp_45, x_w_sumUp_46, x_w_sumUp_47, x_w_sumUp_48, x_w_sumUp_51, x_w_sumUp_52, x_w_sumUp_53, x_w_sumUp_56, x_w_sumUp_59, x_w_sumUp_62, x_w_sumUp_63, x_w_sumUp_64, x_w_sumUp_67, x_w_sumUp_68, x_w_sumUp_69, x_w_sumUp_70, x_w_sumUp_71, x_w_sumUp_72, x_w_sumUp_75, x_w_sumUp_76, x_w_sumUp_77, x_w_sumUp_80, x_w_sumUp_83, x_w_sumUp_86, x_w_sumUp_89, x_w_sumUp_92, q_le, Nat.le_refl, if_true]
    exact hQ jv1 hF hS
  | succ n ih =>
    intro l hl jv1 hF hS
    obtain ⟨s1, s2, s3⟩ := hS
    have h4 : ¬ 9 ≤ l := by omega
    have hfl := hf l (by omega)
    have hr : ∀ l, l < 9 → jv1 (w + 1) l = lN (f l) := fun l hl => (hF (w + 1) l (by omega)).trans (hW l hl)
    have hrl := hr l (by omega)
    have a1 := gst_lt c1 f l
    have a2 := gst_lt cl f l
    have a3 := gst_lt cq f l
    have e9 : l * l ≤ 9 * 9 := Nat.mul_le_mul (by omega) (by omega)
    have p1 := fun Q : Option Value → mH → Prop => sp_e_plus (d := d) (iv := iv) (jv := jv1) (Q := Q) (a := gst c1 f l) (b := (f l, false)) a1 hfl
    rw [gst_1 hfl] at p1
    have u1 : upj jv1 w 1 (lo (gst c1 f (l + 1))) w 2 = lo (gst cl f l) := by rw [upj_nk (by decide)]; exact s2
    have r1 : upj jv1 w 1 (lo (gst c1 f (l + 1))) (w + 1) l = lN (f l) := by rw [upj_ne (by omega)]; exact hrl
    have t2 := fun (j : mJ) (Q : Option Value → mH → Prop) => sp_e_times (d := d) (iv := iv) (jv := j) (Q := Q) (a := (l, false)) (b := (f l, false)) (by dsimp only; omega) hfl
    have p2 := fun (j : mJ) (Q : Option Value → mH → Prop) => sp_e_plus (d := d) (iv := iv) (jv := j) (Q := Q) (a := gst cl f l) (b := tP (cl l, false) (f l, false)) a2 (tP_lt _ _)
    simp only [gst_p] at p2
    rw [show tP (cl l, false) (f l, false) = tP (l, false) (f l, false) from rfl] at p2
    have u2 : upj (upj jv1 w 1 (lo (gst c1 f (l + 1)))) w 2 (lo (gst cl f (l + 1))) w 3 = lo (gst cq f l) := by rw [upj_nk (by decide), upj_nk (by decide)]; exact s3
    have r2 : upj (upj jv1 w 1 (lo (gst c1 f (l + 1)))) w 2 (lo (gst cl f (l + 1))) (w + 1) l = lN (f l) := by rw [upj_ne (by omega)]; exact r1
    have t3 := fun (j : mJ) (Q : Option Value → mH → Prop) => sp_e_times (d := d) (iv := iv) (jv := j) (Q := Q) (a := (l * l, false)) (b := (f l, false)) (by dsimp only; omega) hfl
    have p3 := fun (j : mJ) (Q : Option Value → mH → Prop) => sp_e_plus (d := d) (iv := iv) (jv := j) (Q := Q) (a := gst cq f l) (b := tP (cq l, false) (f l, false)) a3 (tP_lt _ _)
    simp only [gst_p] at p3
    rw [show tP (cq l, false) (f l, false) = tP (l * l, false) (f l, false) from rfl] at p3
    rw [lo_n] at hrl r1 r2
    rw [x_w_sumUp_17]
    simp (disch := first | assumption | omega) only [x_w_sumUp_0, x_w_sumUp_1, x_w_sumUp_2, x_w_sumUp_5, x_w_sumUp_6, x_w_sumUp_7, x_w_sumUp_10, x_w_sumUp_11, x_w_sumUp_12, x_w_sumUp_15, x_w_sumUp_16, x_w_sumUp_18, x_w_sumUp_20, x_w_sumUp_23, x_w_sumUp_24, x_w_sumUp_25, x_w_sumUp_28, x_w_sumUp_29, x_w_sumUp_32, x_w_sumUp_33, x_w_sumUp_34, x_w_sumUp_37, x_w_sumUp_40, x_w_sumUp_41, x_w_sumUp_42, x_w_sumUp_45, x_w_sumUp_46, x_w_sumUp_47, x_w_sumUp_48, x_w_sumUp_51, x_w_sumUp_52, x_w_sumUp_53, x_w_sumUp_56, x_w_sumUp_59, x_w_sumUp_62, x_w_sumUp_63, x_w_sumUp_64, x_w_sumUp_67, x_w_sumUp_68, x_w_sumUp_69, x_w_sumUp_70, x_w_sumUp_71, x_w_sumUp_72, x_w_sumUp_75, x_w_sumUp_76, x_w_sumUp_77, x_w_sumUp_80, x_w_sumUp_83, x_w_sumUp_86, x_w_sumUp_89, x_w_sumUp_92, q_le, h4, if_false, hw, hw1, q_in, q_tn, true_and, and_true, s1, hrl, p1, XK_s, u1, r1, q_i2l, lo_n, t2, p2, u2, r2, q_mul, t3, p3, q_add]
    refine ih (l + 1) (by omega) _ (fun q k hq => ?_) ⟨?_, ?_, ?_⟩
    · rw [upj_ne hq, upj_ne hq, upj_ne hq]; exact hF q k hq
    · rw [upj_nk (by decide), upj_nk (by decide), upj_at]
    · rw [upj_nk (by decide), upj_at]
    · rw [upj_at]
end WEIGHTS
