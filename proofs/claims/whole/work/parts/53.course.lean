section COURSE
variable {d : Nat} {iv : mI} {jv : mJ} {Q : Option Value → mH → Prop} {G : Nat → Nat} {B : Nat}
theorem bc_fin : ∀ s, s < 256 → True := fun _ _ => trivial
/-! a COURSE -/
def isB (B : Nat) : Prop := B = 1 ∨ B = 37 ∨ B = 73
theorem sB {B : Nat} (h : isB B) : shp B = (1, 17) ∧ shp (B + 1) = (16, 9) ∧ shp (B + 2) = (16, 3) ∧ shp (B + 3) = (16, 3) ∧ shp (B + 4) = (16, 5) ∧ shp (B + 5) = (18, 8) ∧ shp (B + 6) = (16, 3) ∧ shp (B + 7) = (4, 4) ∧ shp (B + 8) = (17, 9) ∧ shp (B + 9) = (16, 8) ∧ shp (B + 10) = (16, 9) ∧ shp (B + 11) = (17, 8) := by
  rcases h with rfl | rfl | rfl <;> decide
theorem sI {B i : Nat} (h : isB B) (hi : i < 8) : shp (B + 12 + 3 * i) = (2, 10) ∧ shp (B + 12 + 3 * i + 1) = (16, 9) ∧ shp (B + 12 + 3 * i + 2) = (16, 9) := by
  revert hi; revert i
  rcases h with rfl | rfl | rfl <;> decide
theorem rI {B i : Nat} (h : isB B) : rv (B + 5) i = B + 12 + 3 * i := by
  rw [rv_of (c := 18) (by rw [(sB h).2.2.2.2.2.1])]
  show B + 5 + 7 + 3 * i = _
  omega
theorem lt_B {B : Nat} (h : isB B) : 1 ≤ B ∧ B ≤ 73 := by rcases h with rfl | rfl | rfl <;> decide
def arS (G : Nat → Nat) (a : Nat) : Nat → Nat
  | 0 => 0
  | n + 1 => if G (37 + 6 * n + 1) = a then arS G a n ||| 2 ^ n else arS G a n
theorem arS_s (G : Nat → Nat) (a n : Nat) : arS G a (n + 1) = if G (37 + 6 * n + 1) = a then arS G a n ||| 2 ^ n else arS G a n := rfl
theorem arS_lt (G : Nat → Nat) (a : Nat) : ∀ n, arS G a n < 2 ^ n
  | 0 => by show 0 < 1; decide
  | n + 1 => by
    have h1 := arS_lt G a n
    have h2 : 2 ^ (n + 1) = 2 ^ n * 2 := Nat.pow_succ 2 n
    rw [arS_s]
    split
    · exact Nat.or_lt_two_pow (by omega) (by omega)
    · omega
def CF (B : Nat) (G : Nat → Nat) (iv : mI) : Prop := iv B 4 = nI (G 32) ∧ iv B 5 = nI (G 30) ∧ iv B 6 = nI (G 31) ∧ iv B 7 = nI (G 33) ∧ iv B 9 = nI (G 29) ∧ iv B 11 = nI (G 34) ∧ iv B 14 = nI (G 36)
def CI (B : Nat) (G : Nat → Nat) (i : Nat) (iv : mI) : Prop := IT (B + 12 + 3 * i) (G (37 + 6 * i)) (G (37 + 6 * i + 1)) (G (37 + 6 * i + 2)) (G (37 + 6 * i + 3)) (G (37 + 6 * i + 4)) (G (37 + 6 * i + 5)) (b01 ((G 35).testBit i = true)) (aoR G i (G 36) 0) iv
/-- the COURSE at B holds the test G -/
def CR (B : Nat) (G : Nat → Nat) (iv : mI) (jv : mJ) : Prop :=
  CF B G iv ∧ (∀ l, l < 9 → iv (B + 1) l = nI (G l)) ∧ (∀ a, a < 3 → iv (B + 2) a = nI (G (18 + a)) ∧ iv (B + 3) a = nI (G (21 + a)) ∧ iv (B + 6) a = nI (arS G a (G 29))) ∧ (∀ r, r < 5 → iv (B + 4) r = nI (G (24 + r))) ∧ WR (B + 7) (WN G) jv ∧ (∀ k, k < G 36 → iv (B + 9) k = nI (G (85 + 2 * k))) ∧ (G 34 = 1 → ∀ k, k ≤ G 36 → iv (B + 10) k = nI (mdF (wt G k) 8)) ∧ (∀ i, i < G 29 → CI B G i iv) ∧ (∀ i, i < 8 → iv (B + 12 + 3 * i) 6 = nI 0 ∨ iv (B + 12 + 3 * i) 6 = nI 1)
theorem ne1001 {B k : Nat} (h : isB B) (hk : k ≤ 40) : (B + k = 1001) = False := by
  have := lt_B h
  apply eq_false; omega
theorem sp_o_isItem (x : Int32) (hb : isB B) (hC : CF B G iv) (hB : IB G) : XM (d + 2) Yo_isItem [.ref B, .int x] iv jv Q = Q (some (.int (b01 (0 ≤ x.toInt ∧ x.toInt < (G 29 : Int))))) (mk iv jv) := by
  obtain ⟨c4, c5, c6, c7, c9, c11, c14⟩ := hC
  obtain ⟨s0, s1, s2, s3, s4, s5, s6, s7, s8, s9, s10, s11⟩ := sB hb
  have hb1 := hB.1
  have e : (nI (G 29) - nI 1).toInt = (G 29 : Int) - 1 := by
    have : ∀ n, n ≤ 100 → (nI n - nI 1).toInt = (n : Int) - 1 := by decide +kernel
    exact this _ (by omega)
  have e2 : (nI 0 ≤ x ∧ x ≤ nI (G 29) - nI 1) ↔ (0 ≤ x.toInt ∧ x.toInt < (G 29 : Int)) := by
    rw [t_ge x (by decide), Int32.le_iff_toInt_le, e]; omega
  simp (disch := first | assumption | omega) only [e_o_isItem, x_o_isItem_0, x_o_isItem_1, x_o_isItem_2, x_o_isItem_3, x_o_isItem_6, x_o_isItem_7, x_o_isItem_8, x_o_isItem_11, s0, true_and, c9, sp_t_within, XK_s, b01_ok]
  rw [b01_congr e2]
theorem sp_o_askedOf_lp {a : Nat} (hb : isB B) (hC : CR B G iv jv) (hB : IB G) (ha : a < 3) : True := trivial
end COURSE
