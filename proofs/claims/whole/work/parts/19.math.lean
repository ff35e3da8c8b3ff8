/-! WHAT A TEST IS, IN NUMBERS: G is the reference's row g -/
def up (G : Nat → Nat) (k v : Nat) : Nat → Nat := fun j => if j = k then v else G j
def plainN (h s l : Nat) : Nat := (max 1 (min 15 (8 + 2 * (s : Int) * ((l : Int) - (h : Int))))).toNat
def rightN (k h s l : Nat) : Nat :=
  if k = 1 then max 4 (plainN h s l) else if k = 2 then min 12 (plainN h s l) else if k = 3 then max 4 (min 12 (plainN h s l)) else if k = 4 then max 1 (min 12 (plainN h s l) / 2) else if k = 5 then 8 else plainN h s l
def tellsN (k s r : Nat) : Nat :=
  if k = 1 then s * s * r * (16 - r) - 40 else if k = 3 then s * s * r * (16 - r) - 40 + 10 else if k = 4 then s * s * r * (16 - r) / 2 else if k = 5 then 0 else s * s * r * (16 - r)
def rgt (G : Nat → Nat) (i l : Nat) : Nat := rightN (G (37 + 6 * i)) (G (37 + 6 * i + 2)) (G (37 + 6 * i + 3)) l
def tel (G : Nat → Nat) (i l : Nat) : Nat := tellsN (G (37 + 6 * i)) (G (37 + 6 * i + 3)) (rgt G i l)
theorem plainN_in (h s l : Nat) : 1 ≤ plainN h s l ∧ plainN h s l ≤ 15 := by
  unfold plainN; omega
theorem rightN_in (k h s l : Nat) : 1 ≤ rightN k h s l ∧ rightN k h s l ≤ 15 := by
  have := plainN_in h s l
  unfold rightN
  split
  · omega
  · split
    · omega
    · split
      · omega
      · split
        · omega
        · split <;> omega
theorem rgt_in (G : Nat → Nat) (i l : Nat) : 1 ≤ rgt G i l ∧ rgt G i l ≤ 15 := rightN_in _ _ _ _
theorem tellsN_le (k : Nat) {s r : Nat} (hs : s ≤ 3) (hr : r ≤ 15) : tellsN k s r ≤ 600 := by
  have h1 : s * s ≤ 9 := Nat.mul_le_mul hs hs
  have h3 : r * (16 - r) ≤ 64 := by
    have : ∀ r, r ≤ 15 → r * (16 - r) ≤ 64 := by decide
    exact this r hr
  have h4 : s * s * r * (16 - r) ≤ 576 := by
    rw [Nat.mul_assoc]; exact Nat.mul_le_mul h1 h3
  unfold tellsN
  split
  · omega
  · split
    · omega
    · split
      · omega
      · split <;> omega
def askB (G : Nat → Nat) : Nat → Nat
  | 0 => 0
  | n + 1 => askB G n ||| 2 ^ G (85 + 2 * n)
def inA (G : Nat → Nat) (s a : Nat) : Nat → Nat
  | 0 => 0
  | n + 1 => inA G s a n + if s.testBit n = true ∧ G (37 + 6 * n + 1) = a then 1 else 0
theorem inA_le (G : Nat → Nat) (s a : Nat) : ∀ n, inA G s a n ≤ n
  | 0 => Nat.le_refl _
  | n + 1 => by
    have := inA_le G s a n
    unfold inA
    split <;> omega
def cntB (s : Nat) : Nat → Nat
  | 0 => 0
  | n + 1 => cntB s n + if s.testBit n = true then 1 else 0
/-- what always holds of g -/
def IB (G : Nat → Nat) : Prop := G 29 ≤ 8 ∧ G 36 ≤ 8 ∧ G 35 < 256 ∧ (∀ i, i < 8 → G (37 + 6 * i) ≤ 5 ∧ G (37 + 6 * i + 1) ≤ 2 ∧ G (37 + 6 * i + 2) ≤ 8 ∧ G (37 + 6 * i + 3) ≤ 3 ∧ G (37 + 6 * i + 4) ≤ 10 ∧ G (37 + 6 * i + 5) ≤ 1000) ∧ (∀ k, k < 8 → G (85 + 2 * k) < 8 ∧ G (85 + 2 * k + 1) ≤ 1) ∧ (∀ l, l < 18 → G l ≤ 2000000000) ∧ (∀ a, a < 3 → G (18 + a) ≤ 8 ∧ G (21 + a) ≤ 8) ∧ (∀ r, r < 5 → G (24 + r) ≤ 99) ∧ (1 ≤ G 30 ∧ G 30 ≤ 8) ∧ G 31 ≤ 9 ∧ G 32 ≤ 31 ∧ G 33 ≤ 1000 ∧ G 34 ≤ 1
def RG (G : Nat → Nat) (jv : mJ) : Prop := ∀ k, k < 101 → jv 119 k = lN (G k)
theorem askB_lt {G : Nat → Nat} (h : ∀ k, k < 8 → G (85 + 2 * k) < 8) : ∀ n, n ≤ 8 → askB G n < 256
  | 0, _ => by show 0 < 256; decide
  | n + 1, hn => by
    have h1 := askB_lt h n (by omega)
    have h2 := h n (by omega)
    unfold askB
    have h3 : 2 ^ G (85 + 2 * n) < 2 ^ 8 := Nat.pow_lt_pow_right (by decide) h2
    exact Nat.or_lt_two_pow (n := 8) h1 h3
theorem askB_bit {G : Nat → Nat} (i : Nat) : ∀ n, (askB G n).testBit i = true ↔ ∃ k, k < n ∧ G (85 + 2 * k) = i
  | 0 => by simp [askB]
  | n + 1 => by
    unfold askB
    rw [Nat.testBit_or, Bool.or_eq_true, askB_bit i n, Nat.testBit_two_pow, decide_eq_true_eq]
    constructor
    · rintro (⟨k, h1, h2⟩ | h)
      · exact ⟨k, by omega, h2⟩
      · exact ⟨n, by omega, h⟩
    · rintro ⟨k, h1, h2⟩
      by_cases hk : k = n
      · subst hk; exact Or.inr h2
      · exact Or.inl ⟨k, by omega, h2⟩
theorem bit_has : ∀ s, s < 256 → ∀ k, k < 8 → ((lN s >>> ((nI k).toInt64 &&& 63)) &&& lN 1 = lN 1 ↔ s.testBit k = true) := by decide +kernel
theorem bit_or : ∀ a, a < 256 → ∀ k, k < 8 → nI a ||| (nI 1 <<< (nI k &&& 31)) = nI (a ||| 2 ^ k) := by decide +kernel
theorem bit_orL : ∀ a, a < 256 → ∀ k, k < 8 → lN a ||| (lN 1 <<< ((nI k).toInt64 &&& 63)) = lN (a ||| 2 ^ k) := by decide +kernel
theorem bit_low : ∀ s, s < 256 → s ≠ 0 → nI s &&& (nI s - nI 1) = nI (s &&& (s - 1)) ∧ s &&& (s - 1) < s ∧ cntB (s &&& (s - 1)) 8 + 1 = cntB s 8 := by decide +kernel
