section REF1
variable {d : Nat} {iv : mI} {jv : mJ} {Q : Option Value → mH → Prop}
theorem i64_le (x y : Int64) : (x ≤ y) = ¬ (y < x) := by
  apply propext
  simp only [Int64.le_iff_toInt_le, Int64.lt_iff_toInt_lt]; omega
theorem z01 : (nI 0 = nI 0 ∨ nI 0 = nI 1) = True := by simp
theorem z11 : (nI 1 = nI 0 ∨ nI 1 = nI 1) = True := by simp
theorem sp_m_isIn (v a b : Int64) : XM (d + 1) Ym_isIn [.long v, .long a, .long b] iv jv Q = Q (some (.int (b01 (a ≤ v ∧ v ≤ b)))) (mk iv jv) := by
  simp only [e_m_isIn, x_m_isIn_0, x_m_isIn_1, x_m_isIn_2, x_m_isIn_3, x_m_isIn_6, x_m_isIn_7, x_m_isIn_9, x_m_isIn_10, x_m_isIn_13, x_m_isIn_14, x_m_isIn_17, x_m_isIn_18, c_lt, c_gt, z01, z11, true_and]
  simp only [i64_le]
  by_cases h1 : v < a
  · simp [h1, b01]
  · by_cases h2 : b < v
    · simp [h1, h2, b01]
    · simp [h1, h2, b01]
theorem i32_in (x : Int32) (m : Nat) (hm : m < 2147483648) : (lN 0 ≤ x.toInt64 ∧ x.toInt64 ≤ lN m) = inR x m := by
  apply propext
  unfold inR
  rw [Int64.le_iff_toInt_le, Int64.le_iff_toInt_le, toI64, lN_toI (by omega), lN_toI (by omega)]
  simp
/-- 'is it in 0 .. m': for an int -/
theorem sp_isIn0 (x : Int32) {m : Nat} (hm : m < 2147483648) : XM (d + 1) Ym_isIn [.long x.toInt64, .long (lN 0), .long (lN m)] iv jv Q = Q (some (.int (b01 (0 ≤ x.toInt ∧ x.toInt ≤ m)))) (mk iv jv) := by
  rw [sp_m_isIn]
  have := i32_in x m hm
  unfold inR at this
  rw [b01_congr (Iff.of_eq this)]
theorem sp_m_get {k : Nat} (hk : k < 101) : XM (d + 1) Ym_get [.ref 118, .int (nI k)] iv jv Q = Q (some (.int (jv 119 k).toInt32)) (mk iv jv) := by
  simp (disch := omega) only [e_m_get, x_m_get_0, x_m_get_1, x_m_get_4, x_m_get_5, x_m_get_6, x_m_get_7, q_in, q_tn, true_and]
theorem sp_m_of {i w : Nat} (hi : i < 8) (hw : w < 6) : XM (d + 1) Ym_of [.ref 118, .int (nI i), .int (nI w)] iv jv Q = Q (some (.int (jv 119 (37 + 6 * i + w)).toInt32)) (mk iv jv) := by
  simp (disch := omega) only [e_m_of, x_m_of_0, x_m_of_1, x_m_of_4, x_m_of_6, x_m_of_8, x_m_of_9, x_m_of_10, x_m_of_11, x_m_of_12, x_m_of_13, x_m_of_14, x_m_of_15, q_in, q_tn, q_add, q_mul, true_and]
end REF1
