section EXACT
variable {d : Nat} {iv : mI} {jv : mJ} {Q : Option Value → mH → Prop} {f : Nat → Nat}
/-- a long that may be LOST -/
def lo (p : Nat × Bool) : Int64 := if p.2 = true then -1 else lN p.1
theorem lo_n (n : Nat) : lN n = lo (n, false) := rfl
theorem lo_f {p : Nat × Bool} (h : p.2 = false) : lo p = lN p.1 := by unfold lo; rw [h]; rfl
theorem lo_t {p : Nat × Bool} (h : p.2 = true) : lo p = -1 := by unfold lo; rw [if_pos h]
theorem lo_lt0 {p : Nat × Bool} (h : p.1 < 9223372036854775808) : (lo p < lN 0) = (p.2 = true) := by
  apply propext
  rw [Int64.lt_iff_toInt_lt, lN_toI (by decide)]
  cases e : p.2
  · rw [lo_f e, lN_toI h]; simp
  · rw [lo_t e]; simp
theorem lo_ge0 {p : Nat × Bool} (h : p.1 < 9223372036854775808) : (lN 0 ≤ lo p) = ¬ (p.2 = true) := by rw [i64_le, lo_lt0 h]
def tP (a b : Nat × Bool) : Nat × Bool := (tv a.1 b.1, (a.2 || b.2) || tf a.1 b.1)
def pP (a b : Nat × Bool) : Nat × Bool := (pv a.1 b.1, (a.2 || b.2) || pf a.1 b.1)
theorem lo_m1 (n : Nat) : lo (n, true) = -1 := rfl
theorem sp_e_times {a b : Nat × Bool} (ha : a.1 < 9223372036854775808) (hb : b.1 < 9223372036854775808) : XM (d + 1) Ye_times [.long (lo a), .long (lo b)] iv jv Q = Q (some (.long (lo (tP a b)))) (mk iv jv) := by
  have hMX : MX = 9223372036854775807 := rfl
  by_cases p1 : a.2 = true
  · have e : lo (tP a b) = -1 := lo_t (by unfold tP; simp [p1])
    simp (disch := first | assumption | omega) only [e_e_times, x_e_times_0, x_e_times_1, x_e_times_2, x_e_times_3, x_e_times_6, x_e_times_7, x_e_times_8, x_e_times_9, x_e_times_12, x_e_times_15, x_e_times_16, x_e_times_17, x_e_times_18, x_e_times_19, x_e_times_22, x_e_times_23, x_e_times_26, x_e_times_27, x_e_times_28, x_e_times_29, x_e_times_32, x_e_times_35, x_e_times_36, x_e_times_37, x_e_times_38, x_e_times_39, c_lt, c_ge, lo_lt0, p1, if_true, e]
  · by_cases p2 : b.2 = true
    · have e : lo (tP a b) = -1 := lo_t (by unfold tP; simp [p2])
      simp (disch := first | assumption | omega) only [e_e_times, x_e_times_0, x_e_times_1, x_e_times_2, x_e_times_3, x_e_times_6, x_e_times_7, x_e_times_8, x_e_times_9, x_e_times_12, x_e_times_15, x_e_times_16, x_e_times_17, x_e_times_18, x_e_times_19, x_e_times_22, x_e_times_23, x_e_times_26, x_e_times_27, x_e_times_28, x_e_times_29, x_e_times_32, x_e_times_35, x_e_times_36, x_e_times_37, x_e_times_38, x_e_times_39, c_lt, c_ge, lo_lt0, lo_ge0, p1, p2, not_true_eq_false, if_true, if_false, e, Bool.false_eq_true]
    · have p1' : a.2 = false := by simpa using p1
      have p2' : b.2 = false := by simpa using p2
      have ea := lo_f p1'
      have eb := lo_f p2'
      simp (disch := first | assumption | omega) only [e_e_times, x_e_times_0, x_e_times_1, x_e_times_2, x_e_times_3, x_e_times_6, x_e_times_7, x_e_times_8, x_e_times_9, x_e_times_12, x_e_times_15, x_e_times_16, x_e_times_17, x_e_times_18, x_e_times_19, x_e_times_22, x_e_times_23, x_e_times_26, x_e_times_27, x_e_times_28, x_e_times_29, x_e_times_32, x_e_times_35, x_e_times_36, x_e_times_37, x_e_times_38, x_e_times_39, c_lt, c_ge, lo_lt0, lo_ge0, p1', p2', not_false_eq_true, if_true, if_false, Bool.false_eq_true]
      rw [ea, eb]
      by_cases h0 : a.1 = 0
      · have e : lo (tP a b) = lN 0 := by
          unfold tP; rw [p1', p2', h0]
          have h1 : tv 0 b.1 = 0 := by unfold tv; simp
          have h2 : tf 0 b.1 = false := by unfold tf; simp
          rw [h1, h2]; rfl
        simp (disch := first | assumption | omega) only [e, h0, c_eq, q_leq, if_true, q_lmul, Nat.zero_mul]
      · have h4 : (b.1 ≤ 9223372036854775807 / a.1) = (a.1 * b.1 ≤ MX) := by
          rw [Nat.le_div_iff_mul_le (by omega), Nat.mul_comm]
          rfl
        have h5 : 9223372036854775807 / a.1 < 9223372036854775808 := Nat.lt_of_le_of_lt (Nat.div_le_self _ _) (by decide)
        simp (disch := first | assumption | omega) only [c_eq, q_leq, h0, if_false, q_lne0, not_false_eq_true, true_and, q_ldiv, c_le, q_lle, h4, q_lmul]
        unfold tP
        rw [p1', p2']
        by_cases h6 : a.1 * b.1 ≤ MX
        · rw [if_pos h6, tv_ok h6, tf_ok h6]; rfl
        · rw [if_neg h6, tf_bad (by omega)]; rfl
theorem sp_e_plus {a b : Nat × Bool} (ha : a.1 < 9223372036854775808) (hb : b.1 < 9223372036854775808) : XM (d + 1) Ye_plus [.long (lo a), .long (lo b)] iv jv Q = Q (some (.long (lo (pP a b)))) (mk iv jv) := by
  have hMX : MX = 9223372036854775807 := rfl
  by_cases p1 : a.2 = true
  · have e : lo (pP a b) = -1 := lo_t (by unfold pP; simp [p1])
    simp (disch := first | assumption | omega) only [e_e_plus, x_e_plus_0, x_e_plus_1, x_e_plus_2, x_e_plus_3, x_e_plus_6, x_e_plus_7, x_e_plus_8, x_e_plus_9, x_e_plus_12, x_e_plus_13, x_e_plus_16, x_e_plus_17, x_e_plus_18, x_e_plus_19, x_e_plus_22, x_e_plus_25, x_e_plus_26, x_e_plus_27, x_e_plus_28, x_e_plus_29, c_lt, c_ge, lo_lt0, p1, if_true, e]
  · by_cases p2 : b.2 = true
    · have e : lo (pP a b) = -1 := lo_t (by unfold pP; simp [p2])
      simp (disch := first | assumption | omega) only [e_e_plus, x_e_plus_0, x_e_plus_1, x_e_plus_2, x_e_plus_3, x_e_plus_6, x_e_plus_7, x_e_plus_8, x_e_plus_9, x_e_plus_12, x_e_plus_13, x_e_plus_16, x_e_plus_17, x_e_plus_18, x_e_plus_19, x_e_plus_22, x_e_plus_25, x_e_plus_26, x_e_plus_27, x_e_plus_28, x_e_plus_29, c_lt, c_ge, lo_lt0, lo_ge0, p1, p2, not_true_eq_false, if_true, if_false, e, Bool.false_eq_true]
    · have p1' : a.2 = false := by simpa using p1
      have p2' : b.2 = false := by simpa using p2
      have ea := lo_f p1'
      have eb := lo_f p2'
      simp (disch := first | assumption | omega) only [e_e_plus, x_e_plus_0, x_e_plus_1, x_e_plus_2, x_e_plus_3, x_e_plus_6, x_e_plus_7, x_e_plus_8, x_e_plus_9, x_e_plus_12, x_e_plus_13, x_e_plus_16, x_e_plus_17, x_e_plus_18, x_e_plus_19, x_e_plus_22, x_e_plus_25, x_e_plus_26, x_e_plus_27, x_e_plus_28, x_e_plus_29, c_lt, c_ge, lo_lt0, lo_ge0, p1', p2', not_false_eq_true, if_true, if_false, Bool.false_eq_true]
      rw [ea, eb]
      have h4 : (a.1 ≤ 9223372036854775807 - b.1) = (a.1 + b.1 ≤ MX) := by apply propext; omega
      simp (disch := omega) only [q_lsub, c_le, q_lle, h4, q_ladd]
      unfold pP
      rw [p1', p2']
      by_cases h6 : a.1 + b.1 ≤ MX
      · rw [if_pos h6, pv_ok h6, pf_ok h6]; rfl
      · rw [if_neg h6, pf_bad (by omega)]; rfl
theorem lp_e_common (j0 j2 : Int64) : ∀ k s x y, y < 2 ^ k → s + 2 * k + 1 ≤ 1000 → k ≤ 63 → x < 9223372036854775808 → ∀ u9 u10, XT d Ye_commonDivisor 9 [.long j0, mW, .long j2, mW, .long (lN x), mW, .long (lN y), mW, .int (nI s), u9, u10] [] iv jv Q = Q (some (.long (lN (Nat.gcd x y)))) (mk iv jv) := by
  intro k
  induction k with
  | zero =>
    intro s x y hy hs hk hx u9 u10
    have h0 : y = 0 := by have : 2 ^ 0 = 1 := rfl; omega
    subst h0
    have h1 : ¬ 1000 ≤ s := by omega
    rw [x_e_commonDivisor_9]
    simp (disch := omega) only [x_e_commonDivisor_0, x_e_commonDivisor_1, x_e_commonDivisor_3, x_e_commonDivisor_4, x_e_commonDivisor_6, x_e_commonDivisor_7, x_e_commonDivisor_11, x_e_commonDivisor_14, x_e_commonDivisor_17, x_e_commonDivisor_19, x_e_commonDivisor_20, x_e_commonDivisor_21, x_e_commonDivisor_24, x_e_commonDivisor_26, x_e_commonDivisor_28, x_e_commonDivisor_29, x_e_commonDivisor_31, x_e_commonDivisor_33, x_e_commonDivisor_35, x_e_commonDivisor_37, x_e_commonDivisor_39, x_e_commonDivisor_42, x_e_commonDivisor_45, x_e_commonDivisor_47, q_le, h1, if_false, c_le, q_lle, Nat.le_refl, if_true, Nat.gcd_zero_right]
  | succ k ih =>
    intro s x y hy hs hk hx u9 u10
    have h1 : ¬ 1000 ≤ s := by omega
    have h63 : 2 ^ (k + 1) ≤ 2 ^ 63 := Nat.pow_le_pow_right (by decide) hk
    have h63' : (2 : Nat) ^ 63 = 9223372036854775808 := by decide
    have hp : 2 ^ (k + 1) = 2 ^ k * 2 := Nat.pow_succ 2 k
    rw [x_e_commonDivisor_9]
    by_cases h0 : y = 0
    · subst h0
      simp (disch := omega) only [x_e_commonDivisor_0, x_e_commonDivisor_1, x_e_commonDivisor_3, x_e_commonDivisor_4, x_e_commonDivisor_6, x_e_commonDivisor_7, x_e_commonDivisor_11, x_e_commonDivisor_14, x_e_commonDivisor_17, x_e_commonDivisor_19, x_e_commonDivisor_20, x_e_commonDivisor_21, x_e_commonDivisor_24, x_e_commonDivisor_26, x_e_commonDivisor_28, x_e_commonDivisor_29, x_e_commonDivisor_31, x_e_commonDivisor_33, x_e_commonDivisor_35, x_e_commonDivisor_37, x_e_commonDivisor_39, x_e_commonDivisor_42, x_e_commonDivisor_45, x_e_commonDivisor_47, q_le, h1, if_false, c_le, q_lle, Nat.le_refl, if_true, Nat.gcd_zero_right]
    · have h2 : ¬ y ≤ 0 := by omega
      have hm := Nat.mod_lt x (show 0 < y by omega)
      simp (disch := omega) only [x_e_commonDivisor_0, x_e_commonDivisor_1, x_e_commonDivisor_3, x_e_commonDivisor_4, x_e_commonDivisor_6, x_e_commonDivisor_7, x_e_commonDivisor_11, x_e_commonDivisor_14, x_e_commonDivisor_17, x_e_commonDivisor_19, x_e_commonDivisor_20, x_e_commonDivisor_21, x_e_commonDivisor_24, x_e_commonDivisor_26, x_e_commonDivisor_28, x_e_commonDivisor_29, x_e_commonDivisor_31, x_e_commonDivisor_33, x_e_commonDivisor_35, x_e_commonDivisor_37, x_e_commonDivisor_39, x_e_commonDivisor_42, x_e_commonDivisor_45, x_e_commonDivisor_47, q_le, h1, if_false, c_le, q_lle, h2, q_lne0, h0, not_false_eq_true, true_and, q_lrem, q_add]
      rw [x_e_commonDivisor_9]
      have h1' : ¬ 1000 ≤ s + 1 := by omega
      have g1 : Nat.gcd x y = Nat.gcd y (x % y) := by rw [Nat.gcd_comm x y, Nat.gcd_rec, Nat.gcd_comm]
      by_cases h3 : x % y = 0
      · rw [g1, h3]
        simp (disch := omega) only [x_e_commonDivisor_0, x_e_commonDivisor_1, x_e_commonDivisor_3, x_e_commonDivisor_4, x_e_commonDivisor_6, x_e_commonDivisor_7, x_e_commonDivisor_11, x_e_commonDivisor_14, x_e_commonDivisor_17, x_e_commonDivisor_19, x_e_commonDivisor_20, x_e_commonDivisor_21, x_e_commonDivisor_24, x_e_commonDivisor_26, x_e_commonDivisor_28, x_e_commonDivisor_29, x_e_commonDivisor_31, x_e_commonDivisor_33, x_e_commonDivisor_35, x_e_commonDivisor_37, x_e_commonDivisor_39, x_e_commonDivisor_42, x_e_commonDivisor_45, x_e_commonDivisor_47, q_le, h1', if_false, c_le, q_lle, Nat.le_refl, if_true, Nat.gcd_zero_right]
      · have h4 : ¬ x % y ≤ 0 := by omega
        have hm2 := Nat.mod_lt y (show 0 < x % y by omega)
        have hm3 : y % (x % y) + (x % y) ≤ y := by
          have := Nat.div_add_mod y (x % y)
          have h5 : 1 ≤ y / (x % y) := (Nat.one_le_div_iff (by omega)).mpr (by omega)
          have h6 : (x % y) * 1 ≤ (x % y) * (y / (x % y)) := Nat.mul_le_mul_left _ h5
          omega
        simp (disch := omega) only [x_e_commonDivisor_0, x_e_commonDivisor_1, x_e_commonDivisor_3, x_e_commonDivisor_4, x_e_commonDivisor_6, x_e_commonDivisor_7, x_e_commonDivisor_11, x_e_commonDivisor_14, x_e_commonDivisor_17, x_e_commonDivisor_19, x_e_commonDivisor_20, x_e_commonDivisor_21, x_e_commonDivisor_24, x_e_commonDivisor_26, x_e_commonDivisor_28, x_e_commonDivisor_29, x_e_commonDivisor_31, x_e_commonDivisor_33, x_e_commonDivisor_35, x_e_commonDivisor_37, x_e_commonDivisor_39, x_e_commonDivisor_42, x_e_commonDivisor_45, x_e_commonDivisor_47, q_le, h1', if_false, c_le, q_lle, h4, q_lne0, h3, not_false_eq_true, true_and, q_lrem, q_add]
        have g2 : Nat.gcd y (x % y) = Nat.gcd (x % y) (y % (x % y)) := by rw [Nat.gcd_comm y, Nat.gcd_rec, Nat.gcd_comm]
        rw [g1, g2]
        exact ih (s + 1 + 1) (x % y) (y % (x % y)) (by omega) (by omega) (by omega) (by omega) _ _
theorem sp_e_common {a b : Nat} (ha : a < 9223372036854775808) (hb : b < 9223372036854775808) : XM (d + 1) Ye_commonDivisor [.long (lN a), .long (lN b)] iv jv Q = Q (some (.long (lN (Nat.gcd a b)))) (mk iv jv) := by
  have h63' : (2 : Nat) ^ 63 = 9223372036854775808 := by decide
  simp only [e_e_commonDivisor, x_e_commonDivisor_0, x_e_commonDivisor_1, x_e_commonDivisor_3, x_e_commonDivisor_4, x_e_commonDivisor_6, x_e_commonDivisor_7, x_e_commonDivisor_11, x_e_commonDivisor_14, x_e_commonDivisor_17, x_e_commonDivisor_19, x_e_commonDivisor_20, x_e_commonDivisor_21, x_e_commonDivisor_24, x_e_commonDivisor_26, x_e_commonDivisor_28, x_e_commonDivisor_29, x_e_commonDivisor_31, x_e_commonDivisor_33, x_e_commonDivisor_35, x_e_commonDivisor_37, x_e_commonDivisor_39, x_e_commonDivisor_42, x_e_commonDivisor_45, x_e_commonDivisor_47]
  exact lp_e_common (lN a) (lN b) 63 0 a b (by omega) (by decide) (by decide) ha _ _
theorem sp_e_in {a b : Nat × Bool} {p : Nat} (ha : a.1 < 9223372036854775808) (hb : b.1 < 9223372036854775808) (h0 : a.2 = false → b.2 = false → 0 < b.1) (hp : p < 2) : XM (d + 2) Ye_inLowestTerms [.long (lo a), .long (lo b), .int (nI p)] iv jv Q = Q (some (.long (frR (a.2 || b.2) a.1 b.1 p))) (mk iv jv) := by
  by_cases p1 : a.2 = true
  · simp (disch := first | assumption | omega) only [e_e_inLowestTerms, x_e_inLowestTerms_0, x_e_inLowestTerms_1, x_e_inLowestTerms_2, x_e_inLowestTerms_3, x_e_inLowestTerms_6, x_e_inLowestTerms_7, x_e_inLowestTerms_8, x_e_inLowestTerms_9, x_e_inLowestTerms_12, x_e_inLowestTerms_15, x_e_inLowestTerms_16, x_e_inLowestTerms_17, x_e_inLowestTerms_18, x_e_inLowestTerms_21, x_e_inLowestTerms_23, x_e_inLowestTerms_25, x_e_inLowestTerms_26, x_e_inLowestTerms_27, x_e_inLowestTerms_30, x_e_inLowestTerms_33, x_e_inLowestTerms_34, x_e_inLowestTerms_36, x_e_inLowestTerms_39, x_e_inLowestTerms_40, x_e_inLowestTerms_43, x_e_inLowestTerms_44, x_e_inLowestTerms_46, x_e_inLowestTerms_47, c_lt, c_ge, lo_lt0, p1, if_true, frR, Bool.true_or]
  · have p1' : a.2 = false := by simpa using p1
    by_cases p2 : b.2 = true
    · have e : (-1 : Int64) ≤ lN 0 := by decide
      have e' : ¬ (lN 0 < (-1 : Int64)) := by decide
      have eb := lo_t p2
      simp (disch := first | assumption | omega) only [e_e_inLowestTerms, x_e_inLowestTerms_0, x_e_inLowestTerms_1, x_e_inLowestTerms_2, x_e_inLowestTerms_3, x_e_inLowestTerms_6, x_e_inLowestTerms_7, x_e_inLowestTerms_8, x_e_inLowestTerms_9, x_e_inLowestTerms_12, x_e_inLowestTerms_15, x_e_inLowestTerms_16, x_e_inLowestTerms_17, x_e_inLowestTerms_18, x_e_inLowestTerms_21, x_e_inLowestTerms_23, x_e_inLowestTerms_25, x_e_inLowestTerms_26, x_e_inLowestTerms_27, x_e_inLowestTerms_30, x_e_inLowestTerms_33, x_e_inLowestTerms_34, x_e_inLowestTerms_36, x_e_inLowestTerms_39, x_e_inLowestTerms_40, x_e_inLowestTerms_43, x_e_inLowestTerms_44, x_e_inLowestTerms_46, x_e_inLowestTerms_47, c_lt, c_ge, c_le, c_gt, lo_lt0, lo_ge0, p1', Bool.false_eq_true, if_false, not_false_eq_true, if_true, eb, e, e', frR, p2, Bool.or_true]
    · have p2' : b.2 = false := by simpa using p2
      have h0 := h0 p1' p2'
      have ea := lo_f p1'
      have eb := lo_f p2'
      have h1 : ¬ b.1 ≤ 0 := by omega
      have g1 : 0 < Nat.gcd a.1 b.1 := Nat.gcd_pos_of_pos_right _ h0
      have g2 : Nat.gcd a.1 b.1 ≤ b.1 := Nat.le_of_dvd h0 (Nat.gcd_dvd_right _ _)
      have g3 : ¬ (Nat.gcd a.1 b.1 = 0) := by omega
      have g4 : ¬ (Nat.gcd a.1 b.1 ≤ 0) := by omega
      have h00 : ¬ a.1 < 0 := by omega
      unfold frR frN
      rw [p1', p2', ea, eb, if_neg (by decide)]
      by_cases h6 : p = 0
      · subst h6
        simp (disch := first | assumption | omega) only [e_e_inLowestTerms, x_e_inLowestTerms_0, x_e_inLowestTerms_1, x_e_inLowestTerms_2, x_e_inLowestTerms_3, x_e_inLowestTerms_6, x_e_inLowestTerms_7, x_e_inLowestTerms_8, x_e_inLowestTerms_9, x_e_inLowestTerms_12, x_e_inLowestTerms_15, x_e_inLowestTerms_16, x_e_inLowestTerms_17, x_e_inLowestTerms_18, x_e_inLowestTerms_21, x_e_inLowestTerms_23, x_e_inLowestTerms_25, x_e_inLowestTerms_26, x_e_inLowestTerms_27, x_e_inLowestTerms_30, x_e_inLowestTerms_33, x_e_inLowestTerms_34, x_e_inLowestTerms_36, x_e_inLowestTerms_39, x_e_inLowestTerms_40, x_e_inLowestTerms_43, x_e_inLowestTerms_44, x_e_inLowestTerms_46, x_e_inLowestTerms_47, c_lt, c_ge, c_le, c_gt, q_llt, q_lle, h00, h1, h0, g1, g4, Nat.zero_le, if_true, if_false, sp_e_common, XK_s, q_lne0, g3, not_false_eq_true, true_and, q_ldiv]
      · simp (disch := first | assumption | omega) only [e_e_inLowestTerms, x_e_inLowestTerms_0, x_e_inLowestTerms_1, x_e_inLowestTerms_2, x_e_inLowestTerms_3, x_e_inLowestTerms_6, x_e_inLowestTerms_7, x_e_inLowestTerms_8, x_e_inLowestTerms_9, x_e_inLowestTerms_12, x_e_inLowestTerms_15, x_e_inLowestTerms_16, x_e_inLowestTerms_17, x_e_inLowestTerms_18, x_e_inLowestTerms_21, x_e_inLowestTerms_23, x_e_inLowestTerms_25, x_e_inLowestTerms_26, x_e_inLowestTerms_27, x_e_inLowestTerms_30, x_e_inLowestTerms_33, x_e_inLowestTerms_34, x_e_inLowestTerms_36, x_e_inLowestTerms_39, x_e_inLowestTerms_40, x_e_inLowestTerms_43, x_e_inLowestTerms_44, x_e_inLowestTerms_46, x_e_inLowestTerms_47, c_lt, c_ge, c_le, c_gt, q_llt, q_lle, h00, h1, h0, g1, g4, Nat.zero_le, if_true, if_false, qn0, h6, sp_e_common, XK_s, q_lne0, g3, not_false_eq_true, true_and, q_ldiv]
end EXACT
