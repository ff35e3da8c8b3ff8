section REF5
variable {d : Nat} {iv : mI} {jv : mJ} {Q : Option Value → mH → Prop} {G : Nat → Nat} {f : Nat → Nat}
def c1 (_ : Nat) : Nat := 1
def cl (l : Nat) : Nat := l
def cq (l : Nat) : Nat := l * l
theorem gst_lt (c f : Nat → Nat) (n : Nat) : (gst c f n).1 < 9223372036854775808 := by
  have := gst_le c f n; unfold MX at this; omega
theorem tv_lt (a b : Nat) : tv a b < 9223372036854775808 := by have := tv_le a b; unfold MX at this; omega
theorem pv_lt (a b : Nat) : pv a b < 9223372036854775808 := by have := pv_le a b; unfold MX at this; omega
theorem gst1_s {f : Nat → Nat} {n : Nat} (h : f n < 9223372036854775808) : gst c1 f (n + 1) = (pv (gst c1 f n).1 (f n), (gst c1 f n).2 || pf (gst c1 f n).1 (f n)) := by
  have h1 : 1 * f n ≤ MX := by unfold MX; omega
  rw [gst_s]
  show (pv _ (tv 1 (f n)), ((gst c1 f n).2 || tf 1 (f n)) || pf _ (tv 1 (f n))) = _
  rw [tv_ok h1, tf_ok h1, Nat.one_mul, Bool.or_false]
theorem lp_m_all (hW : ∀ l, l < 9 → jv 122 l = lN (f l)) (hf : ∀ l, l < 9 → f l < 9223372036854775808) : ∀ n l, l + n = 9 → XT (d + 1) Ym_all 4 [.ref 118, .long (lN (gst c1 f l).1), mW, .int (nI l)] [] (fl iv (gst c1 f l).2) jv Q = Q (some (.long (lN (gst c1 f 9).1))) (mk (fl iv (gst c1 f 9).2) jv) := by
  intro n
  induction n with
  | zero =>
    intro l hl
    obtain rfl : l = 9 := by omega
    rw [x_m_all_4]
    simp (disch := omega) only [x_m_all_0, x_m_all_1, x_m_all_2, x_m_all_3, x_m_all_5, x_m_all_7, x_m_all_10, x_m_all_11, x_m_all_12, x_m_all_13, x_m_all_16, x_m_all_17, x_m_all_18, x_m_all_21, x_m_all_22, x_m_all_25, x_m_all_28, x_m_all_29, q_le, Nat.le_refl, if_true]
  | succ n ih =>
    intro l hl
    have h4 : ¬ 9 ≤ l := by omega
    have h5 := hf l (by omega)
    have h6 := gst_lt c1 f l
    have h8 := ih (l + 1) (by omega)
    rw [gst1_s h5, ← fl_fl] at h8
    rw [x_m_all_4]
    simp (disch := omega) only [x_m_all_0, x_m_all_1, x_m_all_2, x_m_all_3, x_m_all_5, x_m_all_7, x_m_all_10, x_m_all_11, x_m_all_12, x_m_all_13, x_m_all_16, x_m_all_17, x_m_all_18, x_m_all_21, x_m_all_22, x_m_all_25, x_m_all_28, x_m_all_29, q_le, h4, if_false, q_in, q_tn, true_and, hW, sp_m_plus, XK_s, q_add]
    exact h8
theorem sp_m_all (hW : ∀ l, l < 9 → jv 122 l = lN (f l)) (hf : ∀ l, l < 9 → f l < 9223372036854775808) : XM (d + 2) Ym_all [.ref 118] iv jv Q = Q (some (.long (lN (gst c1 f 9).1))) (mk (fl iv (gst c1 f 9).2) jv) := by
  simp only [e_m_all, x_m_all_0, x_m_all_1, x_m_all_2, x_m_all_3, x_m_all_5, x_m_all_7, x_m_all_10, x_m_all_11, x_m_all_12, x_m_all_13, x_m_all_16, x_m_all_17, x_m_all_18, x_m_all_21, x_m_all_22, x_m_all_25, x_m_all_28, x_m_all_29]
  exact lp_m_all hW hf 9 0 (by omega)
theorem lp_m_mean (hW : ∀ l, l < 9 → jv 122 l = lN (f l)) (hf : ∀ l, l < 9 → f l < 9223372036854775808) : ∀ n l, l + n = 9 → XT (d + 1) Ym_mean 4 [.ref 118, .long (lN (gst cl f l).1), mW, .int (nI l)] [] (fl iv (gst cl f l).2) jv Q = Q (some (.long (lN (gst cl f 9).1))) (mk (fl iv (gst cl f 9).2) jv) := by
  intro n
  induction n with
  | zero =>
    intro l hl
    obtain rfl : l = 9 := by omega
    rw [x_m_mean_4]
    simp (disch := omega) only [x_m_mean_0, x_m_mean_1, x_m_mean_2, x_m_mean_3, x_m_mean_5, x_m_mean_7, x_m_mean_10, x_m_mean_11, x_m_mean_12, x_m_mean_13, x_m_mean_14, x_m_mean_15, x_m_mean_16, x_m_mean_19, x_m_mean_20, x_m_mean_21, x_m_mean_24, x_m_mean_27, x_m_mean_28, x_m_mean_31, x_m_mean_34, x_m_mean_35, q_le, Nat.le_refl, if_true]
  | succ n ih =>
    intro l hl
    have h4 : ¬ 9 ≤ l := by omega
    have h5 := hf l (by omega)
    have h6 := gst_lt cl f l
    have h7 := tv_lt l (f l)
    have h8 := ih (l + 1) (by omega)
    rw [gst_s, ← fl_fl, ← fl_fl] at h8
    rw [x_m_mean_4]
    simp (disch := omega) only [x_m_mean_0, x_m_mean_1, x_m_mean_2, x_m_mean_3, x_m_mean_5, x_m_mean_7, x_m_mean_10, x_m_mean_11, x_m_mean_12, x_m_mean_13, x_m_mean_14, x_m_mean_15, x_m_mean_16, x_m_mean_19, x_m_mean_20, x_m_mean_21, x_m_mean_24, x_m_mean_27, x_m_mean_28, x_m_mean_31, x_m_mean_34, x_m_mean_35, q_le, h4, if_false, q_in, q_tn, true_and, hW, q_i2l, sp_m_times, sp_m_plus, XK_s, q_add]
    exact h8
theorem sp_m_mean (hW : ∀ l, l < 9 → jv 122 l = lN (f l)) (hf : ∀ l, l < 9 → f l < 9223372036854775808) : XM (d + 2) Ym_mean [.ref 118] iv jv Q = Q (some (.long (lN (gst cl f 9).1))) (mk (fl iv (gst cl f 9).2) jv) := by
  simp only [e_m_mean, x_m_mean_0, x_m_mean_1, x_m_mean_2, x_m_mean_3, x_m_mean_5, x_m_mean_7, x_m_mean_10, x_m_mean_11, x_m_mean_12, x_m_mean_13, x_m_mean_14, x_m_mean_15, x_m_mean_16, x_m_mean_19, x_m_mean_20, x_m_mean_21, x_m_mean_24, x_m_mean_27, x_m_mean_28, x_m_mean_31, x_m_mean_34, x_m_mean_35]
  exact lp_m_mean hW hf 9 0 (by omega)
theorem lp_m_squares (hW : ∀ l, l < 9 → jv 122 l = lN (f l)) (hf : ∀ l, l < 9 → f l < 9223372036854775808) : ∀ n l, l + n = 9 → XT (d + 1) Ym_squares 4 [.ref 118, .long (lN (gst cq f l).1), mW, .int (nI l)] [] (fl iv (gst cq f l).2) jv Q = Q (some (.long (lN (gst cq f 9).1))) (mk (fl iv (gst cq f 9).2) jv) := by
  intro n
  induction n with
  | zero =>
    intro l hl
    obtain rfl : l = 9 := by omega
    rw [x_m_squares_4]
    simp (disch := omega) only [x_m_squares_0, x_m_squares_1, x_m_squares_2, x_m_squares_3, x_m_squares_5, x_m_squares_7, x_m_squares_10, x_m_squares_11, x_m_squares_12, x_m_squares_13, x_m_squares_14, x_m_squares_15, x_m_squares_16, x_m_squares_17, x_m_squares_18, x_m_squares_21, x_m_squares_22, x_m_squares_23, x_m_squares_26, x_m_squares_29, x_m_squares_30, x_m_squares_33, x_m_squares_36, x_m_squares_37, q_le, Nat.le_refl, if_true]
  | succ n ih =>
    intro l hl
    have h4 : ¬ 9 ≤ l := by omega
    have h5 := hf l (by omega)
    have h6 := gst_lt cq f l
    have h7 := tv_lt (l * l) (f l)
    have h9 : l * l ≤ 9 * 9 := Nat.mul_le_mul (by omega) (by omega)
    have h8 := ih (l + 1) (by omega)
    rw [gst_s, ← fl_fl, ← fl_fl] at h8
    rw [x_m_squares_4]
    simp (disch := omega) only [x_m_squares_0, x_m_squares_1, x_m_squares_2, x_m_squares_3, x_m_squares_5, x_m_squares_7, x_m_squares_10, x_m_squares_11, x_m_squares_12, x_m_squares_13, x_m_squares_14, x_m_squares_15, x_m_squares_16, x_m_squares_17, x_m_squares_18, x_m_squares_21, x_m_squares_22, x_m_squares_23, x_m_squares_26, x_m_squares_29, x_m_squares_30, x_m_squares_33, x_m_squares_36, x_m_squares_37, q_le, h4, if_false, q_in, q_tn, true_and, hW, q_mul, q_i2l, sp_m_times, sp_m_plus, XK_s, q_add]
    exact h8
theorem sp_m_squares (hW : ∀ l, l < 9 → jv 122 l = lN (f l)) (hf : ∀ l, l < 9 → f l < 9223372036854775808) : XM (d + 2) Ym_squares [.ref 118] iv jv Q = Q (some (.long (lN (gst cq f 9).1))) (mk (fl iv (gst cq f 9).2) jv) := by
  simp only [e_m_squares, x_m_squares_0, x_m_squares_1, x_m_squares_2, x_m_squares_3, x_m_squares_5, x_m_squares_7, x_m_squares_10, x_m_squares_11, x_m_squares_12, x_m_squares_13, x_m_squares_14, x_m_squares_15, x_m_squares_16, x_m_squares_17, x_m_squares_18, x_m_squares_21, x_m_squares_22, x_m_squares_23, x_m_squares_26, x_m_squares_29, x_m_squares_30, x_m_squares_33, x_m_squares_36, x_m_squares_37]
  exact lp_m_squares hW hf 9 0 (by omega)
theorem tel_le {G : Nat → Nat} (hB : IB G) {i : Nat} (hi : i < 8) (l : Nat) : tel G i l ≤ 600 := by
  have h1 := (hB.2.2.2.1 i hi).2.2.2.1
  have h2 := (rgt_in G i l).2
  exact tellsN_le _ h1 h2
theorem lp_m_tellsAll {i : Nat} (hG : ∀ k, k < 101 → jv 119 k = lN (G k)) (hB : IB G) (hi : i < 8) (hW : ∀ l, l < 9 → jv 122 l = lN (f l)) (hf : ∀ l, l < 9 → f l < 9223372036854775808) : ∀ n l, l + n = 9 → XT (d + 4) Ym_tellsAll 5 [.ref 118, .int (nI i), .long (lN (gst f (tel G i) l).1), mW, .int (nI l)] [] (fl iv (gst f (tel G i) l).2) jv Q = Q (some (.long (lN (gst f (tel G i) 9).1))) (mk (fl iv (gst f (tel G i) 9).2) jv) := by
  intro n
  induction n with
  | zero =>
    intro l hl
    obtain rfl : l = 9 := by omega
    rw [x_m_tellsAll_5]
    simp (disch := omega) only [x_m_tellsAll_0, x_m_tellsAll_1, x_m_tellsAll_2, x_m_tellsAll_3, x_m_tellsAll_7, x_m_tellsAll_9, x_m_tellsAll_12, x_m_tellsAll_13, x_m_tellsAll_14, x_m_tellsAll_15, x_m_tellsAll_16, x_m_tellsAll_19, x_m_tellsAll_21, x_m_tellsAll_22, x_m_tellsAll_23, x_m_tellsAll_24, x_m_tellsAll_26, x_m_tellsAll_29, x_m_tellsAll_30, x_m_tellsAll_33, x_m_tellsAll_36, x_m_tellsAll_37, x_m_tellsAll_40, x_m_tellsAll_43, x_m_tellsAll_44, q_le, Nat.le_refl, if_true]
  | succ n ih =>
    intro l hl
    have h4 : ¬ 9 ≤ l := by omega
    have h5 := hf l (by omega)
    have h6 := gst_lt f (tel G i) l
    have h7 := tv_lt (f l) (tel G i l)
    have h9 := tel_le hB hi l
    have h8 := ih (l + 1) (by omega)
    rw [gst_s, ← fl_fl, ← fl_fl] at h8
    rw [x_m_tellsAll_5]
    simp (disch := omega) only [x_m_tellsAll_0, x_m_tellsAll_1, x_m_tellsAll_2, x_m_tellsAll_3, x_m_tellsAll_7, x_m_tellsAll_9, x_m_tellsAll_12, x_m_tellsAll_13, x_m_tellsAll_14, x_m_tellsAll_15, x_m_tellsAll_16, x_m_tellsAll_19, x_m_tellsAll_21, x_m_tellsAll_22, x_m_tellsAll_23, x_m_tellsAll_24, x_m_tellsAll_26, x_m_tellsAll_29, x_m_tellsAll_30, x_m_tellsAll_33, x_m_tellsAll_36, x_m_tellsAll_37, x_m_tellsAll_40, x_m_tellsAll_43, x_m_tellsAll_44, q_le, h4, if_false, q_in, q_tn, true_and, hW, sp_m_tellsOf hG hB, q_i2l, sp_m_times, sp_m_plus, XK_s, q_add]
    exact h8
theorem sp_m_tellsAll {i : Nat} (hG : ∀ k, k < 101 → jv 119 k = lN (G k)) (hB : IB G) (hi : i < 8) (hW : ∀ l, l < 9 → jv 122 l = lN (f l)) (hf : ∀ l, l < 9 → f l < 9223372036854775808) : XM (d + 5) Ym_tellsAll [.ref 118, .int (nI i)] iv jv Q = Q (some (.long (lN (gst f (tel G i) 9).1))) (mk (fl iv (gst f (tel G i) 9).2) jv) := by
  simp only [e_m_tellsAll, x_m_tellsAll_0, x_m_tellsAll_1, x_m_tellsAll_2, x_m_tellsAll_3, x_m_tellsAll_7, x_m_tellsAll_9, x_m_tellsAll_12, x_m_tellsAll_13, x_m_tellsAll_14, x_m_tellsAll_15, x_m_tellsAll_16, x_m_tellsAll_19, x_m_tellsAll_21, x_m_tellsAll_22, x_m_tellsAll_23, x_m_tellsAll_24, x_m_tellsAll_26, x_m_tellsAll_29, x_m_tellsAll_30, x_m_tellsAll_33, x_m_tellsAll_36, x_m_tellsAll_37, x_m_tellsAll_40, x_m_tellsAll_43, x_m_tellsAll_44]
  exact lp_m_tellsAll hG hB hi hW hf 9 0 (by omega)
theorem lp_m_rightAll {i : Nat} (hG : ∀ k, k < 101 → jv 119 k = lN (G k)) (hB : IB G) (hi : i < 8) (hW : ∀ l, l < 9 → jv 122 l = lN (f l)) (hf : ∀ l, l < 9 → f l < 9223372036854775808) : ∀ n l, l + n = 9 → XT (d + 3) Ym_rightAll 5 [.ref 118, .int (nI i), .long (lN (gst f (rgt G i) l).1), mW, .int (nI l)] [] (fl iv (gst f (rgt G i) l).2) jv Q = Q (some (.long (lN (gst f (rgt G i) 9).1))) (mk (fl iv (gst f (rgt G i) 9).2) jv) := by
  intro n
  induction n with
  | zero =>
    intro l hl
    obtain rfl : l = 9 := by omega
    rw [x_m_rightAll_5]
    simp (disch := omega) only [x_m_rightAll_0, x_m_rightAll_1, x_m_rightAll_2, x_m_rightAll_3, x_m_rightAll_7, x_m_rightAll_9, x_m_rightAll_12, x_m_rightAll_13, x_m_rightAll_14, x_m_rightAll_15, x_m_rightAll_16, x_m_rightAll_19, x_m_rightAll_21, x_m_rightAll_22, x_m_rightAll_23, x_m_rightAll_24, x_m_rightAll_26, x_m_rightAll_29, x_m_rightAll_30, x_m_rightAll_33, x_m_rightAll_36, x_m_rightAll_37, x_m_rightAll_40, x_m_rightAll_43, x_m_rightAll_44, q_le, Nat.le_refl, if_true]
  | succ n ih =>
    intro l hl
    have h4 : ¬ 9 ≤ l := by omega
    have h5 := hf l (by omega)
    have h6 := gst_lt f (rgt G i) l
    have h7 := tv_lt (f l) (rgt G i l)
    have h9 := rgt_in G i l
    have h8 := ih (l + 1) (by omega)
    rw [gst_s, ← fl_fl, ← fl_fl] at h8
    rw [x_m_rightAll_5]
    simp (disch := omega) only [x_m_rightAll_0, x_m_rightAll_1, x_m_rightAll_2, x_m_rightAll_3, x_m_rightAll_7, x_m_rightAll_9, x_m_rightAll_12, x_m_rightAll_13, x_m_rightAll_14, x_m_rightAll_15, x_m_rightAll_16, x_m_rightAll_19, x_m_rightAll_21, x_m_rightAll_22, x_m_rightAll_23, x_m_rightAll_24, x_m_rightAll_26, x_m_rightAll_29, x_m_rightAll_30, x_m_rightAll_33, x_m_rightAll_36, x_m_rightAll_37, x_m_rightAll_40, x_m_rightAll_43, x_m_rightAll_44, q_le, h4, if_false, q_in, q_tn, true_and, hW, sp_m_rightOf hG hB, q_i2l, sp_m_times, sp_m_plus, XK_s, q_add]
    exact h8
theorem sp_m_rightAll {i : Nat} (hG : ∀ k, k < 101 → jv 119 k = lN (G k)) (hB : IB G) (hi : i < 8) (hW : ∀ l, l < 9 → jv 122 l = lN (f l)) (hf : ∀ l, l < 9 → f l < 9223372036854775808) : XM (d + 4) Ym_rightAll [.ref 118, .int (nI i)] iv jv Q = Q (some (.long (lN (gst f (rgt G i) 9).1))) (mk (fl iv (gst f (rgt G i) 9).2) jv) := by
  simp only [e_m_rightAll, x_m_rightAll_0, x_m_rightAll_1, x_m_rightAll_2, x_m_rightAll_3, x_m_rightAll_7, x_m_rightAll_9, x_m_rightAll_12, x_m_rightAll_13, x_m_rightAll_14, x_m_rightAll_15, x_m_rightAll_16, x_m_rightAll_19, x_m_rightAll_21, x_m_rightAll_22, x_m_rightAll_23, x_m_rightAll_24, x_m_rightAll_26, x_m_rightAll_29, x_m_rightAll_30, x_m_rightAll_33, x_m_rightAll_36, x_m_rightAll_37, x_m_rightAll_40, x_m_rightAll_43, x_m_rightAll_44]
  exact lp_m_rightAll hG hB hi hW hf 9 0 (by omega)
def spB (f : Nat → Nat) : Bool := ((((((gst c1 f 9).2 || (gst cl f 9).2) || (gst cq f 9).2) || tf (gst cq f 9).1 (gst c1 f 9).1) || tf (gst cl f 9).1 (gst cl f 9).1) || tf (gst c1 f 9).1 (gst c1 f 9).1)
def spU (f : Nat → Nat) : Int64 := lN (tv (gst cq f 9).1 (gst c1 f 9).1) - lN (tv (gst cl f 9).1 (gst cl f 9).1)
def spL (f : Nat → Nat) : Nat := tv (gst c1 f 9).1 (gst c1 f 9).1
theorem upj_ne {jv : mJ} {q k : Nat} {x : Int64} {a j : Nat} (h : a ≠ q) : upj jv q k x a j = jv a j := by unfold upj; rw [if_neg (fun z => h z.1)]
theorem sp_m_spread (hW : ∀ l, l < 9 → jv 122 l = lN (f l)) (hf : ∀ l, l < 9 → f l < 9223372036854775808) : XM (d + 3) Ym_spread [.ref 118] iv jv Q = Q none (mk (fl iv (spB f)) (upj (upj jv 118 6 (spU f)) 118 7 (lN (spL f)))) := by
  have g1 := gst_lt c1 f 9
  have g2 := gst_lt cl f 9
  have g3 := gst_lt cq f 9
  simp (disch := first | assumption | omega) only [e_m_spread, x_m_spread_0, x_m_spread_1, x_m_spread_4, x_m_spread_5, x_m_spread_6, x_m_spread_9, x_m_spread_10, x_m_spread_11, x_m_spread_12, x_m_spread_15, x_m_spread_16, x_m_spread_19, x_m_spread_21, x_m_spread_22, x_m_spread_23, x_m_spread_24, x_m_spread_27, x_m_spread_29, x_m_spread_30, x_m_spread_32, x_m_spread_34, x_m_spread_35, x_m_spread_38, x_m_spread_39, x_m_spread_40, x_m_spread_41, x_m_spread_42, x_m_spread_45, x_m_spread_48, sp_m_all hW hf, sp_m_mean hW hf, sp_m_squares hW hf, XK_s, XK_n, sp_m_times, fl_fl]
  rfl
def frN (a b p : Nat) : Nat := (if p = 0 then a else b) / Nat.gcd a b
def frR (bad : Bool) (a b p : Nat) : Int64 := if bad = true then -9223372036854775808 else lN (frN a b p)
theorem sp_m_part {a b p : Nat} {bad : Bool} (h5 : iv 118 5 = if bad = true then nI 1 else nI 0) (h6 : bad = false → jv 118 6 = lN a) (h7 : bad = false → jv 118 7 = lN b) (ha : bad = false → a < 9223372036854775808) (hb : bad = false → 0 < b ∧ b < 9223372036854775808) (hp : p < 2) : XM (d + 2) Ym_part [.ref 118, .int (nI p)] iv jv Q = Q (some (.long (frR bad a b p))) (mk iv jv) := by
  cases bad with
  | true =>
    have h0 : ¬ (nI 1 = nI 0) := by decide
    simp only [e_m_part, x_m_part_0, x_m_part_1, x_m_part_4, x_m_part_7, x_m_part_10, x_m_part_11, x_m_part_12, x_m_part_15, x_m_part_16, x_m_part_19, x_m_part_22, x_m_part_23, x_m_part_26, x_m_part_27, x_m_part_30, x_m_part_31, x_m_part_34, x_m_part_37, x_m_part_38, h5, if_true, h0, if_false, frR]
  | false =>
    have ha := ha rfl
    have hb := hb rfl
    have h6 := h6 rfl
    have h7 := h7 rfl
    have hg : 0 < Nat.gcd a b := Nat.gcd_pos_of_pos_right _ hb.1
    have hg2 : Nat.gcd a b ≤ b := Nat.le_of_dvd hb.1 (Nat.gcd_dvd_right _ _)
    have h0 : ¬ (Nat.gcd a b = 0) := by omega
    by_cases e : p = 0
    · subst e
      simp (disch := omega) only [e_m_part, x_m_part_0, x_m_part_1, x_m_part_4, x_m_part_7, x_m_part_10, x_m_part_11, x_m_part_12, x_m_part_15, x_m_part_16, x_m_part_19, x_m_part_22, x_m_part_23, x_m_part_26, x_m_part_27, x_m_part_30, x_m_part_31, x_m_part_34, x_m_part_37, x_m_part_38, h5, h6, h7, Bool.false_eq_true, if_false, if_true, sp_m_common, XK_s, q_lne0, h0, not_false_eq_true, true_and, q_ldiv, frR, frN]
    · have e1 : p = 1 := by omega
      subst e1
      have e2 : ¬ (nI 1 = nI 0) := by decide
      have e3 : ¬ (1 = 0) := by decide
      simp (disch := omega) only [e_m_part, x_m_part_0, x_m_part_1, x_m_part_4, x_m_part_7, x_m_part_10, x_m_part_11, x_m_part_12, x_m_part_15, x_m_part_16, x_m_part_19, x_m_part_22, x_m_part_23, x_m_part_26, x_m_part_27, x_m_part_30, x_m_part_31, x_m_part_34, x_m_part_37, x_m_part_38, h5, h6, h7, Bool.false_eq_true, e2, e3, if_false, if_true, sp_m_common, XK_s, q_lne0, h0, not_false_eq_true, true_and, q_ldiv, frR, frN]
end REF5
