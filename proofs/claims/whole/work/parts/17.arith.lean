/-! NUMBERS: ints and longs that are counts -/
def b01 (c : Prop) [Decidable c] : Int32 := if c then nI 1 else nI 0
theorem b01_eq0 (c : Prop) [Decidable c] : (b01 c = nI 0) = ¬ c := by
  unfold b01; by_cases h : c <;> simp [h]; decide
theorem b01_eq1 (c : Prop) [Decidable c] : (b01 c = nI 1) = c := by
  unfold b01; by_cases h : c <;> simp [h]; decide
theorem b01_ok (c : Prop) [Decidable c] : (b01 c = nI 0 ∨ b01 c = nI 1) = True := by
  unfold b01; by_cases h : c <;> simp [h]
theorem b01_t {c : Prop} [Decidable c] (h : c) : b01 c = nI 1 := if_pos h
theorem b01_f {c : Prop} [Decidable c] (h : ¬ c) : b01 c = nI 0 := if_neg h
theorem b01_congr {c e : Prop} [Decidable c] [Decidable e] (h : c ↔ e) : b01 c = b01 e := by
  unfold b01; by_cases h1 : c
  · rw [if_pos h1, if_pos (h.mp h1)]
  · rw [if_neg h1, if_neg (fun z => h1 (h.mpr z))]
theorem q_lt {a b : Nat} (ha : a < 2147483648) (hb : b < 2147483648) : (nI a < nI b) = (a < b) := propext (nI_ltI ha hb)
theorem q_le {a b : Nat} (ha : a < 2147483648) (hb : b < 2147483648) : (nI a ≤ nI b) = (a ≤ b) := propext (nI_leI ha hb)
theorem q_eq {a b : Nat} (ha : a < 2147483648) (hb : b < 2147483648) : (nI a = nI b) = (a = b) := propext (nI_eq ha hb)
theorem q_tn {k : Nat} (h : k < 2147483648) : (nI k).toNatClampNeg = k := nI_clamp h
theorem q_in {k N : Nat} (h : k < N) (hN : N < 2147483648) : vp_in (nI k) N = True := by
  simpa using vp_in_nI h hN
theorem q_add (a b : Nat) : nI a + nI b = nI (a + b) := nI_add a b
theorem q_mul (a b : Nat) : nI a * nI b = nI (a * b) := pk_mul a b
theorem q_sub {a b : Nat} (h : b ≤ a) : nI a - nI b = nI (a - b) := pk_sub h
theorem q_div {a b : Nat} (ha : a < 2147483648) (h0 : 0 < b) (hb : b < 2147483648) : nI a / nI b = nI (a / b) := pk_div ha h0 hb
theorem q_rem {a b : Nat} (ha : a < 2147483648) (h0 : 0 < b) (hb : b < 2147483648) : nI a - nI a / nI b * nI b = nI (a % b) := pk_rem ha h0 hb
theorem q_i2l {a : Nat} (h : a < 2147483648) : (nI a).toInt64 = lN a := nI_l h
theorem q_l2i (a : Nat) : (lN a).toInt32 = nI a := lN_i a
theorem q_llt {a b : Nat} (ha : a < 9223372036854775808) (hb : b < 9223372036854775808) : (lN a < lN b) = (a < b) := propext (pk_lLT ha hb)
theorem q_lle {a b : Nat} (ha : a < 9223372036854775808) (hb : b < 9223372036854775808) : (lN a ≤ lN b) = (a ≤ b) := propext (pk_lLE ha hb)
theorem q_leq {a b : Nat} (ha : a < 9223372036854775808) (hb : b < 9223372036854775808) : (lN a = lN b) = (a = b) := propext (pk_lEQ ha hb)
theorem q_ladd (a b : Nat) : lN a + lN b = lN (a + b) := lN_add a b
theorem q_lmul (a b : Nat) : lN a * lN b = lN (a * b) := lN_mul a b
theorem q_lsub {a b : Nat} (h : b ≤ a) : lN a - lN b = lN (a - b) := lN_sub h
theorem q_ldiv {a b : Nat} (ha : a < 9223372036854775808) (h0 : 0 < b) (hb : b < 9223372036854775808) : lN a / lN b = lN (a / b) := pk_lDiv ha h0 hb
theorem q_lrem {a b : Nat} (ha : a < 9223372036854775808) (h0 : 0 < b) (hb : b < 9223372036854775808) : lN a - lN a / lN b * lN b = lN (a % b) := pk_lRem ha h0 hb
theorem lt_tri (x y : Int64) : (y < x ∧ ¬ x = y ∧ ¬ x < y) ∨ (¬ y < x ∧ x = y ∧ ¬ x < y) ∨ (¬ y < x ∧ ¬ x = y ∧ x < y) := by
  simp only [Int64.lt_iff_toInt_lt, ← Int64.toInt_inj]
  omega
theorem c_lt (x y : Int64) : (lg_cmp x y < nI 0) = (x < y) := by
  rcases lt_tri x y with ⟨h1, h2, h3⟩ | ⟨h1, h2, h3⟩ | ⟨h1, h2, h3⟩ <;> simp [lg_cmp, h1, h2, h3] <;> decide
theorem c_gt (x y : Int64) : (nI 0 < lg_cmp x y) = (y < x) := by
  rcases lt_tri x y with ⟨h1, h2, h3⟩ | ⟨h1, h2, h3⟩ | ⟨h1, h2, h3⟩ <;> simp [lg_cmp, h1, h2, h3] <;> decide
theorem c_eq (x y : Int64) : (lg_cmp x y = nI 0) = (x = y) := by
  rcases lt_tri x y with ⟨h1, h2, h3⟩ | ⟨h1, h2, h3⟩ | ⟨h1, h2, h3⟩ <;> simp [lg_cmp, h1, h2, h3] <;> decide
theorem c_le (x y : Int64) : (lg_cmp x y ≤ nI 0) = (x ≤ y) := by
  have e : x ≤ y ↔ ¬ y < x := by simp only [Int64.le_iff_toInt_le, Int64.lt_iff_toInt_lt]; omega
  rw [propext e]
  rcases lt_tri x y with ⟨h1, h2, h3⟩ | ⟨h1, h2, h3⟩ | ⟨h1, h2, h3⟩ <;> simp [lg_cmp, h1, h2, h3] <;> decide
theorem c_ge (x y : Int64) : (nI 0 ≤ lg_cmp x y) = (y ≤ x) := by
  have e : y ≤ x ↔ ¬ x < y := by simp only [Int64.le_iff_toInt_le, Int64.lt_iff_toInt_lt]; omega
  rw [propext e]
  rcases lt_tri x y with ⟨h1, h2, h3⟩ | ⟨h1, h2, h3⟩ | ⟨h1, h2, h3⟩ <;> simp [lg_cmp, h1, h2, h3] <;> decide
theorem nI_toI {k : Nat} (h : k < 2147483648) : (nI k).toInt = (k : Int) := nI_toInt h
/-- an int between 0 and m -/
def inR (x : Int32) (m : Nat) : Prop := 0 ≤ x.toInt ∧ x.toInt ≤ m
theorem inR_of {x : Int32} {m : Nat} (h : inR x m) (hm : m < 2147483648) : ∃ k, k ≤ m ∧ x = nI k := by
  obtain ⟨h1, h2⟩ := h
  refine ⟨x.toInt.toNat, by omega, ?_⟩
  apply Int32.toInt_inj.mp
  rw [nI_toI (by omega)]
  omega
theorem inR_n {k m : Nat} (hk : k < 2147483648) : inR (nI k) m ↔ k ≤ m := by
  unfold inR; rw [nI_toI hk]; omega
theorem toI64 (x : Int32) : x.toInt64.toInt = x.toInt := by simp
theorem lN_toI {k : Nat} (h : k < 9223372036854775808) : (lN k).toInt = (k : Int) := pk_lT h
