section REF3
variable {d : Nat} {iv : mI} {jv : mJ} {Q : Option Value → mH → Prop} {G : Nat → Nat} {f : Nat → Nat}
theorem sp_m_times {a b : Nat} (ha : a < 9223372036854775808) (hb : b < 9223372036854775808) : XM (d + 1) Ym_times [.ref 118, .long (lN a), .long (lN b)] iv jv Q = Q (some (.long (lN (tv a b)))) (mk (fl iv (tf a b)) jv) := by
  have hMX : MX = 9223372036854775807 := rfl
  by_cases h0 : a = 0
  · subst h0
    have h1 : tv 0 b = 0 := by unfold tv; simp
    have h2 : tf 0 b = false := by unfold tf; simp
    simp (disch := omega) only [e_m_times, x_m_times_0, x_m_times_1, x_m_times_2, x_m_times_3, x_m_times_6, x_m_times_7, x_m_times_10, x_m_times_11, x_m_times_12, x_m_times_13, x_m_times_16, x_m_times_17, x_m_times_18, x_m_times_21, x_m_times_22, x_m_times_23, x_m_times_24, x_m_times_25, x_m_times_26, c_eq, q_leq, if_true, q_lmul, h1, h2, fl_f, Nat.zero_mul]
  · have h3 : (¬ a = 0) = True := by simp [h0]
    have h4 : (b ≤ 9223372036854775807 / a) = (a * b ≤ MX) := by
      rw [Nat.le_div_iff_mul_le (by omega), Nat.mul_comm]
      rfl
    have h5 : 9223372036854775807 / a < 9223372036854775808 := Nat.lt_of_le_of_lt (Nat.div_le_self _ _) (by decide)
    simp (disch := omega) only [e_m_times, x_m_times_0, x_m_times_1, x_m_times_2, x_m_times_3, x_m_times_6, x_m_times_7, x_m_times_10, x_m_times_11, x_m_times_12, x_m_times_13, x_m_times_16, x_m_times_17, x_m_times_18, x_m_times_21, x_m_times_22, x_m_times_23, x_m_times_24, x_m_times_25, x_m_times_26, c_eq, q_leq, h0, if_false, q_lne0, not_false_eq_true, true_and, q_ldiv, c_le, q_lle, h4, z11, or_true, true_and, q_lmul]
    by_cases h6 : a * b ≤ MX
    · rw [if_pos h6, tv_ok h6, tf_ok h6, fl_f]
    · rw [if_neg h6, tf_bad (by omega), fl_t]
      unfold tv
      rw [if_neg h6]
theorem sp_m_plus {a b : Nat} (ha : a < 9223372036854775808) (hb : b < 9223372036854775808) : XM (d + 1) Ym_plus [.ref 118, .long (lN a), .long (lN b)] iv jv Q = Q (some (.long (lN (pv a b)))) (mk (fl iv (pf a b)) jv) := by
  have hMX : MX = 9223372036854775807 := rfl
  have h4 : (a ≤ 9223372036854775807 - b) = (a + b ≤ MX) := by apply propext; omega
  simp (disch := omega) only [e_m_plus, x_m_plus_0, x_m_plus_1, x_m_plus_4, x_m_plus_5, x_m_plus_6, x_m_plus_7, x_m_plus_10, x_m_plus_11, x_m_plus_12, x_m_plus_15, x_m_plus_16, x_m_plus_17, x_m_plus_18, x_m_plus_19, x_m_plus_20, q_lsub, c_le, q_lle, h4, z11, or_true, true_and, q_ladd]
  by_cases h6 : a + b ≤ MX
  · rw [if_pos h6, pv_ok h6, pf_ok h6, fl_f]
  · rw [if_neg h6, pf_bad (by omega), fl_t]
    unfold pv
    rw [if_neg h6]
/-- the same, of any two longs: something is answered, and perhaps it is told that it is too great -/
theorem sp_m_times_any (x y : Int64) : ∃ (r : Int64) (b : Bool), ∀ (d : Nat) (iv : mI) (jv : mJ) (Q : Option Value → mH → Prop), XM (d + 1) Ym_times [.ref 118, .long x, .long y] iv jv Q = Q (some (.long r)) (mk (fl iv b) jv) := by
  by_cases h0 : x = lN 0
  · refine ⟨x * y, false, fun d iv jv Q => ?_⟩
    simp only [e_m_times, x_m_times_0, x_m_times_1, x_m_times_2, x_m_times_3, x_m_times_6, x_m_times_7, x_m_times_10, x_m_times_11, x_m_times_12, x_m_times_13, x_m_times_16, x_m_times_17, x_m_times_18, x_m_times_21, x_m_times_22, x_m_times_23, x_m_times_24, x_m_times_25, x_m_times_26, c_eq, h0, if_true, fl_f]
  · have h0' : ¬ x = 0 := h0
    by_cases h1 : y ≤ lN 9223372036854775807 / x
    · refine ⟨x * y, false, fun d iv jv Q => ?_⟩
      simp only [e_m_times, x_m_times_0, x_m_times_1, x_m_times_2, x_m_times_3, x_m_times_6, x_m_times_7, x_m_times_10, x_m_times_11, x_m_times_12, x_m_times_13, x_m_times_16, x_m_times_17, x_m_times_18, x_m_times_21, x_m_times_22, x_m_times_23, x_m_times_24, x_m_times_25, x_m_times_26, c_eq, h0, if_false, h0', not_false_eq_true, true_and, c_le, h1, if_true, fl_f]
    · refine ⟨lN 0, true, fun d iv jv Q => ?_⟩
      simp only [e_m_times, x_m_times_0, x_m_times_1, x_m_times_2, x_m_times_3, x_m_times_6, x_m_times_7, x_m_times_10, x_m_times_11, x_m_times_12, x_m_times_13, x_m_times_16, x_m_times_17, x_m_times_18, x_m_times_21, x_m_times_22, x_m_times_23, x_m_times_24, x_m_times_25, x_m_times_26, c_eq, h0, if_false, h0', not_false_eq_true, true_and, c_le, h1, z11, or_true, true_and, if_false, fl_t]
theorem lp_m_common (j0 j2 : Int64) : ∀ n y, y ≤ n → y < 9223372036854775808 → ∀ x, x < 9223372036854775808 → ∀ u8 u9, XT d Ym_common 6 [.long j0, mW, .long j2, mW, .long (lN x), mW, .long (lN y), mW, u8, u9] [] iv jv Q = Q (some (.long (lN (Nat.gcd x y)))) (mk iv jv) := by
  intro n
  induction n with
  | zero =>
    intro y hy h63 x hx u8 u9
    obtain rfl : y = 0 := by omega
    rw [x_m_common_6]
    simp (disch := omega) only [x_m_common_0, x_m_common_1, x_m_common_3, x_m_common_4, x_m_common_8, x_m_common_9, x_m_common_10, x_m_common_13, x_m_common_15, x_m_common_17, x_m_common_18, x_m_common_20, x_m_common_22, x_m_common_24, x_m_common_26, x_m_common_28, x_m_common_31, x_m_common_33, c_eq, q_leq, if_true, Nat.gcd_zero_right]
  | succ n ih =>
    intro y hy h63 x hx u8 u9
    by_cases h0 : y = 0
    · subst h0
      rw [x_m_common_6]
      simp (disch := omega) only [x_m_common_0, x_m_common_1, x_m_common_3, x_m_common_4, x_m_common_8, x_m_common_9, x_m_common_10, x_m_common_13, x_m_common_15, x_m_common_17, x_m_common_18, x_m_common_20, x_m_common_22, x_m_common_24, x_m_common_26, x_m_common_28, x_m_common_31, x_m_common_33, c_eq, q_leq, if_true, Nat.gcd_zero_right]
    · have h1 : x % y < y := Nat.mod_lt _ (by omega)
      have h2 : (¬ y = 0) = True := by simp [h0]
      rw [x_m_common_6]
      simp (disch := omega) only [x_m_common_0, x_m_common_1, x_m_common_3, x_m_common_4, x_m_common_8, x_m_common_9, x_m_common_10, x_m_common_13, x_m_common_15, x_m_common_17, x_m_common_18, x_m_common_20, x_m_common_22, x_m_common_24, x_m_common_26, x_m_common_28, x_m_common_31, x_m_common_33, c_eq, q_leq, h0, if_false, q_lne0, not_false_eq_true, true_and, q_lrem]
      rw [ih (x % y) (by omega) (by omega) y (by omega), Nat.gcd_comm x y, Nat.gcd_rec y x, Nat.gcd_comm]
theorem sp_m_common {a b : Nat} (ha : a < 9223372036854775808) (hb : b < 9223372036854775808) : XM (d + 1) Ym_common [.long (lN a), .long (lN b)] iv jv Q = Q (some (.long (lN (Nat.gcd a b)))) (mk iv jv) := by
  simp only [e_m_common, x_m_common_0, x_m_common_1, x_m_common_3, x_m_common_4, x_m_common_8, x_m_common_9, x_m_common_10, x_m_common_13, x_m_common_15, x_m_common_17, x_m_common_18, x_m_common_20, x_m_common_22, x_m_common_24, x_m_common_26, x_m_common_28, x_m_common_31, x_m_common_33]
  exact lp_m_common _ _ b b (Nat.le_refl _) hb a ha _ _
theorem lp_m_div1 (hW : ∀ l, l < 9 → jv 122 l = lN (f l)) (hf : ∀ l, l < 9 → f l < 9223372036854775808) (hg : ∀ n, n ≤ 9 → gcn f n < 9223372036854775808) (R : Prop) (hR : ∀ i3, XT (d + 1) Ym_divides 27 [.ref 118, .long (lN (gcn f 9)), mW, .int i3] [] iv jv Q = R) : ∀ n l, l + n = 9 → XT (d + 1) Ym_divides 4 [.ref 118, .long (lN (gcn f l)), mW, .int (nI l)] [] iv jv Q = R := by
  intro n
  induction n with
  | zero =>
    intro l hl
    obtain rfl : l = 9 := by omega
    rw [x_m_divides_4, ← hR (nI 9)]
    simp (disch := omega) only [x_m_divides_5, x_m_divides_7, q_le, Nat.le_refl, if_true]
  | succ n ih =>
    intro l hl
    have h4 : ¬ 9 ≤ l := by omega
    have h5 := hf l (by omega)
    have h6 := hg l (by omega)
    rw [x_m_divides_4]
    simp (disch := omega) only [x_m_divides_0, x_m_divides_1, x_m_divides_2, x_m_divides_3, x_m_divides_5, x_m_divides_7, x_m_divides_10, x_m_divides_11, x_m_divides_12, x_m_divides_15, x_m_divides_16, x_m_divides_17, x_m_divides_20, x_m_divides_21, x_m_divides_24, x_m_divides_27, x_m_divides_28, x_m_divides_30, x_m_divides_32, x_m_divides_35, x_m_divides_36, x_m_divides_39, x_m_divides_40, x_m_divides_41, x_m_divides_42, x_m_divides_43, x_m_divides_44, x_m_divides_45, x_m_divides_48, x_m_divides_51, q_le, h4, if_false, q_in, q_tn, true_and, hW, sp_m_common, XK_s, q_add]
    exact ih (l + 1) (by omega)
theorem lp_m_div2 {g : Nat} (hW : ∀ l, l < 9 → jv 122 l = lN (f l)) (hf : ∀ l, l < 9 → f l < 9223372036854775808) (h0 : 0 < g) (h1 : g < 9223372036854775808) : ∀ n l, l + n = 9 → XT (d + 1) Ym_divides 29 [.ref 118, .long (lN g), mW, .int (nI l)] [] iv (stW jv (fun k => f k / g) l) Q = Q none (mk iv (stW jv (fun k => f k / g) 9)) := by
  intro n
  induction n with
  | zero =>
    intro l hl
    obtain rfl : l = 9 := by omega
    rw [x_m_divides_29]
    simp (disch := omega) only [x_m_divides_0, x_m_divides_1, x_m_divides_2, x_m_divides_3, x_m_divides_5, x_m_divides_7, x_m_divides_10, x_m_divides_11, x_m_divides_12, x_m_divides_15, x_m_divides_16, x_m_divides_17, x_m_divides_20, x_m_divides_21, x_m_divides_24, x_m_divides_27, x_m_divides_28, x_m_divides_30, x_m_divides_32, x_m_divides_35, x_m_divides_36, x_m_divides_39, x_m_divides_40, x_m_divides_41, x_m_divides_42, x_m_divides_43, x_m_divides_44, x_m_divides_45, x_m_divides_48, x_m_divides_51, q_le, Nat.le_refl, if_true]
  | succ n ih =>
    intro l hl
    have h4 : ¬ 9 ≤ l := by omega
    have h5 := hf l (by omega)
    have h6 : ¬ g = 0 := by omega
    have h7 : f l / g < 9223372036854775808 := Nat.lt_of_le_of_lt (Nat.div_le_self _ _) h5
    rw [x_m_divides_29]
    simp (disch := omega) only [x_m_divides_0, x_m_divides_1, x_m_divides_2, x_m_divides_3, x_m_divides_5, x_m_divides_7, x_m_divides_10, x_m_divides_11, x_m_divides_12, x_m_divides_15, x_m_divides_16, x_m_divides_17, x_m_divides_20, x_m_divides_21, x_m_divides_24, x_m_divides_27, x_m_divides_28, x_m_divides_30, x_m_divides_32, x_m_divides_35, x_m_divides_36, x_m_divides_39, x_m_divides_40, x_m_divides_41, x_m_divides_42, x_m_divides_43, x_m_divides_44, x_m_divides_45, x_m_divides_48, x_m_divides_51, q_le, h4, if_false, q_in, q_tn, true_and, stW_ge, Nat.le_refl, hW, q_lne0, h6, not_false_eq_true, q_ldiv, q_add]
    have h8 := stW_s jv (fun k => f k / g) l
    rw [h8]
    exact ih (l + 1) (by omega)
theorem gcn_lt {f : Nat → Nat} (hf : ∀ l, l < 9 → f l < 9223372036854775808) : ∀ n, n ≤ 9 → gcn f n < 9223372036854775808
  | 0, _ => by show 0 < _; decide
  | n + 1, h => by
    have h1 := gcn_lt hf n (by omega)
    have h2 := hf n (by omega)
    unfold gcn
    rcases Nat.eq_zero_or_pos (gcn f n) with e | e
    · rw [e, Nat.gcd_zero_left]; exact h2
    · exact Nat.lt_of_le_of_lt (Nat.le_of_dvd e (Nat.gcd_dvd_left _ _)) h1
theorem sp_m_divides (hW : ∀ l, l < 9 → jv 122 l = lN (f l)) (hf : ∀ l, l < 9 → f l < 9223372036854775808) (hn : nz f) : XM (d + 2) Ym_divides [.ref 118] iv jv Q = Q none (mk iv (stW jv (dv f) 9)) := by
  simp only [e_m_divides, x_m_divides_0, x_m_divides_1, x_m_divides_2, x_m_divides_3, x_m_divides_5, x_m_divides_7, x_m_divides_10, x_m_divides_11, x_m_divides_12, x_m_divides_15, x_m_divides_16, x_m_divides_17, x_m_divides_20, x_m_divides_21, x_m_divides_24, x_m_divides_27, x_m_divides_28, x_m_divides_30, x_m_divides_32, x_m_divides_35, x_m_divides_36, x_m_divides_39, x_m_divides_40, x_m_divides_41, x_m_divides_42, x_m_divides_43, x_m_divides_44, x_m_divides_45, x_m_divides_48, x_m_divides_51]
  refine lp_m_div1 hW hf (gcn_lt hf) _ (fun i3 => ?_) 9 0 (by omega)
  simp only [x_m_divides_27, x_m_divides_28]
  have h := lp_m_div2 (d := d) (iv := iv) (Q := Q) hW hf (gcn_pos hn) (gcn_lt hf 9 (by omega)) 9 0 (by omega)
  rw [stW_0] at h
  exact h
theorem lp_m_mode (hW : ∀ l, l < 9 → jv 122 l = lN (f l)) (hf : ∀ l, l < 9 → f l < 9223372036854775808) : ∀ n l, l + n = 9 → 1 ≤ l → XT d Ym_modeNow 4 [.ref 118, .int (nI (mdF f (l - 1))), .int (nI l)] [] iv jv Q = Q (some (.int (nI (mdF f 8)))) (mk iv jv) := by
  intro n
  induction n with
  | zero =>
    intro l hl h1
    obtain rfl : l = 9 := by omega
    rw [x_m_modeNow_4]
    simp (disch := omega) only [x_m_modeNow_0, x_m_modeNow_1, x_m_modeNow_2, x_m_modeNow_3, x_m_modeNow_5, x_m_modeNow_7, x_m_modeNow_10, x_m_modeNow_11, x_m_modeNow_14, x_m_modeNow_15, x_m_modeNow_16, x_m_modeNow_17, x_m_modeNow_20, x_m_modeNow_21, x_m_modeNow_22, x_m_modeNow_23, x_m_modeNow_26, x_m_modeNow_27, x_m_modeNow_30, x_m_modeNow_31, x_m_modeNow_32, x_m_modeNow_35, x_m_modeNow_38, x_m_modeNow_39, q_le, Nat.le_refl, if_true]
  | succ n ih =>
    intro l hl h1
    have h4 : ¬ 9 ≤ l := by omega
    obtain ⟨k, rfl⟩ : ∃ k, l = k + 1 := ⟨l - 1, by omega⟩
    have h2 := mdF_le f k
    have h5 := hf (k + 1) (by omega)
    have h6 := hf (mdF f k) (by omega)
    have h3 := ih (k + 1 + 1) (by omega) (by omega)
    rw [x_m_modeNow_4]
    simp only [Nat.add_sub_cancel] at h3 ⊢
    have e : mdF f (k + 1) = if f (mdF f k) < f (k + 1) then k + 1 else mdF f k := rfl
    rw [e] at h3
    simp (disch := omega) only [x_m_modeNow_0, x_m_modeNow_1, x_m_modeNow_2, x_m_modeNow_3, x_m_modeNow_5, x_m_modeNow_7, x_m_modeNow_10, x_m_modeNow_11, x_m_modeNow_14, x_m_modeNow_15, x_m_modeNow_16, x_m_modeNow_17, x_m_modeNow_20, x_m_modeNow_21, x_m_modeNow_22, x_m_modeNow_23, x_m_modeNow_26, x_m_modeNow_27, x_m_modeNow_30, x_m_modeNow_31, x_m_modeNow_32, x_m_modeNow_35, x_m_modeNow_38, x_m_modeNow_39, q_le, h4, if_false, q_in, q_tn, true_and, hW, c_le, q_lle, q_add]
    by_cases h7 : f (mdF f k) < f (k + 1)
    · rw [if_pos h7] at h3
      rw [if_neg (by omega)]
      exact h3
    · rw [if_neg h7] at h3
      rw [if_pos (by omega)]
      exact h3
theorem sp_m_modeNow (hW : ∀ l, l < 9 → jv 122 l = lN (f l)) (hf : ∀ l, l < 9 → f l < 9223372036854775808) : XM (d + 1) Ym_modeNow [.ref 118] iv jv Q = Q (some (.int (nI (mdF f 8)))) (mk iv jv) := by
  simp only [e_m_modeNow, x_m_modeNow_0, x_m_modeNow_1, x_m_modeNow_2, x_m_modeNow_3, x_m_modeNow_5, x_m_modeNow_7, x_m_modeNow_10, x_m_modeNow_11, x_m_modeNow_14, x_m_modeNow_15, x_m_modeNow_16, x_m_modeNow_17, x_m_modeNow_20, x_m_modeNow_21, x_m_modeNow_22, x_m_modeNow_23, x_m_modeNow_26, x_m_modeNow_27, x_m_modeNow_30, x_m_modeNow_31, x_m_modeNow_32, x_m_modeNow_35, x_m_modeNow_38, x_m_modeNow_39]
  exact lp_m_mode hW hf 8 1 (by omega) (by omega)
end REF3
