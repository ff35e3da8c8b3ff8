section REF6
variable {d : Nat} {iv : mI} {jv : mJ} {Q : Option Value → mH → Prop} {G : Nat → Nat} {f : Nat → Nat}
theorem n10 : (nI 1 = nI 0) = False := by simp; decide
theorem n01 : (nI 0 = nI 1) = False := by simp; decide
/-! arguments that may be any ints -/
theorem in_I (x : Int32) {a b : Nat} (ha : a < 2147483648) (hb : b < 2147483648) : (lN a ≤ x.toInt64 ∧ x.toInt64 ≤ lN b) ↔ ((a : Int) ≤ x.toInt ∧ x.toInt ≤ (b : Int)) := by
  rw [Int64.le_iff_toInt_le, Int64.le_iff_toInt_le, toI64, lN_toI (by omega), lN_toI (by omega)]
theorem sub_I (x : Int32) {a : Nat} (ha : a < 1000) (h : 0 ≤ x.toInt) : (x - nI a).toInt = x.toInt - a := by
  have h1 := Int32.toInt_lt x
  have h2 := nI_toI (k := a) (by omega)
  rw [Int32.toInt_sub, h2]
  have : (x.toInt - (a : Int)).bmod (2 ^ 32) = x.toInt - (a : Int) := by
    apply Int.bmod_eq_of_le <;> omega
  exact this
theorem sp_isInI (x : Int32) {a b : Nat} (ha : a < 2147483648) (hb : b < 2147483648) : XM (d + 1) Ym_isIn [.long x.toInt64, .long (lN a), .long (lN b)] iv jv Q = Q (some (.int (b01 ((a : Int) ≤ x.toInt ∧ x.toInt ≤ (b : Int))))) (mk iv jv) := by
  rw [sp_m_isIn, b01_congr (in_I x ha hb)]
theorem sp_isInN {v a b : Nat} (hv : v < 9223372036854775808) (ha : a < 9223372036854775808) (hb : b < 9223372036854775808) : XM (d + 1) Ym_isIn [.long (lN v), .long (lN a), .long (lN b)] iv jv Q = Q (some (.int (b01 (a ≤ v ∧ v ≤ b)))) (mk iv jv) := by
  rw [sp_m_isIn]
  congr 4
  rw [q_lle ha hv, q_lle hv hb]
theorem sp_isItemN {i : Nat} (hi : i < 2147483648) (h29 : jv 119 29 = lN (G 29)) (hB : G 29 ≤ 8) : XM (d + 2) Ym_isItem [.ref 118, .int (nI i)] iv jv Q = Q (some (.int (b01 (i < G 29)))) (mk iv jv) := by
  rw [sp_m_isItem (nI i) h29 hB, b01_congr (e := i < G 29)]
  rw [nI_toI hi]; omega
theorem sp_isLevelN {i : Nat} (hi : i < 2147483648) : XM (d + 2) Ym_isLevel [.int (nI i)] iv jv Q = Q (some (.int (b01 (i ≤ 8)))) (mk iv jv) := by
  rw [sp_m_isLevel (nI i), b01_congr (e := i ≤ 8)]
  rw [nI_toI hi]; omega
/-! what a question of the reference leaves -/
def FR (iv : mI) (jv : mJ) (iv' : mI) (jv' : mJ) : Prop := (∀ q k, ¬ (q = 118 ∧ (k = 5 ∨ k = 8 ∨ 12 ≤ k)) → iv' q k = iv q k) ∧ (∀ q k, q ≠ 118 → q ≠ 122 → jv' q k = jv q k)
theorem FR_r (iv : mI) (jv : mJ) : FR iv jv iv jv := ⟨fun _ _ _ => rfl, fun _ _ _ _ => rfl⟩
theorem FR_t {iv jv iv1 jv1 iv2 jv2} (h : FR iv jv iv1 jv1) (h' : FR iv1 jv1 iv2 jv2) : FR iv jv iv2 jv2 :=
  ⟨fun q k e => (h'.1 q k e).trans (h.1 q k e), fun q k e1 e2 => (h'.2 q k e1 e2).trans (h.2 q k e1 e2)⟩
theorem FR_G {iv jv iv1 jv1} {G : Nat → Nat} (h : FR iv jv iv1 jv1) (hG : ∀ k, k < 101 → jv 119 k = lN (G k)) : ∀ k, k < 101 → jv1 119 k = lN (G k) := fun k hk => (h.2 119 k (by decide) (by decide)).trans (hG k hk)
theorem FR_fl (iv : mI) (jv : mJ) (b : Bool) : FR iv jv (fl iv b) jv := ⟨fun q k e => fl_at (fun z => e ⟨z.1, Or.inl z.2⟩), fun _ _ _ _ => rfl⟩
theorem FR_5 (iv : mI) (jv : mJ) (x : Int32) : FR iv jv (upi iv 118 5 x) jv := ⟨fun q k e => by unfold upi; rw [if_neg (fun z => e ⟨z.1, Or.inl z.2⟩)], fun _ _ _ _ => rfl⟩
theorem FR_w (iv : mI) (jv : mJ) (g : Nat → Nat) (n : Nat) : FR iv jv iv (stW jv g n) := ⟨fun _ _ _ => rfl, fun q k _ e => stW_ne e⟩
theorem FR_j (iv : mI) (jv : mJ) (k : Nat) (x : Int64) : FR iv jv iv (upj jv 118 k x) := ⟨fun _ _ _ => rfl, fun q k e _ => upj_ne e⟩
theorem FR_weighs (iv : mI) (jv : mJ) (g : Nat → Nat) : FR iv jv (upi iv 118 5 (nI 0)) (stW jv g 9) := FR_t (FR_5 iv jv _) (FR_w _ _ _ _)
/-- the WEIGHTS as they are -/
def WN (G : Nat → Nat) : Nat → Nat := wt G (G 36)
theorem WN_lt {G : Nat → Nat} (hB : IB G) : ∀ l, l < 9 → WN G l < 9223372036854775808 := fun _ hl => wt_lt hB.2.2.2.2.2.1 hB.2.1 hl
theorem WN_nz {G : Nat → Nat} (hn : nz (wt G 0)) : nz (WN G) := wt_nz hn _
theorem sp_weighs (hG : ∀ k, k < 101 → jv 119 k = lN (G k)) (hB : IB G) (hn : nz (wt G 0)) : XM (d + 6) Ym_weighs [.ref 118] iv jv Q = Q none (mk (upi iv 118 5 (nI 0)) (stW jv (WN G) 9)) := sp_m_weighs hG hB hn
theorem sp_m_weight {l : Nat} (hG : ∀ k, k < 101 → jv 119 k = lN (G k)) (hB : IB G) (hn : nz (wt G 0)) (hl : l < 9) (hQ : ∀ iv' jv', FR iv jv iv' jv' → Q (some (.long (lN (WN G l)))) (mk iv' jv')) : XM (d + 7) Ym_weight [.ref 118, .int (nI l)] iv jv Q := by
  have hl2 : l ≤ 8 := by omega
  simp (disch := first | assumption | omega) only [e_m_weight, x_m_weight_0, x_m_weight_1, x_m_weight_4, x_m_weight_7, x_m_weight_10, x_m_weight_11, x_m_weight_12, x_m_weight_15, x_m_weight_16, x_m_weight_19, x_m_weight_20, x_m_weight_21, sp_isLevelN, XK_s, b01_eq0, hl2, not_true_eq_false, if_false, sp_weighs hG hB hn, XK_n, q_in, q_tn, true_and, stW_lt]
  exact hQ _ _ (FR_weighs _ _ _)
theorem sp_m_weight_bad {x : Int32} (h : ¬ (0 ≤ x.toInt ∧ x.toInt ≤ (8 : Nat))) : XM (d + 7) Ym_weight [.ref 118, .int x] iv jv Q = Q (some (.long (-9223372036854775808))) (mk iv jv) := by
  simp only [e_m_weight, x_m_weight_0, x_m_weight_1, x_m_weight_4, x_m_weight_7, x_m_weight_10, x_m_weight_11, x_m_weight_12, x_m_weight_15, x_m_weight_16, x_m_weight_19, x_m_weight_20, x_m_weight_21, sp_m_isLevel, XK_s, b01_eq0, h, not_false_eq_true, if_true]
theorem sp_m_mode (hG : ∀ k, k < 101 → jv 119 k = lN (G k)) (hB : IB G) (hn : nz (wt G 0)) : XM (d + 7) Ym_mode [.ref 118] iv jv Q = Q (some (.int (nI (mdF (WN G) 8)))) (mk (upi iv 118 5 (nI 0)) (stW jv (WN G) 9)) := by
  simp only [e_m_mode, x_m_mode_0, x_m_mode_1, x_m_mode_4, x_m_mode_5, x_m_mode_8, sp_weighs hG hB hn, XK_n]
  rw [sp_m_modeNow (f := WN G) (fun l hl => stW_lt hl) (WN_lt hB)]
  simp only [XK_s, x_m_mode_0, x_m_mode_1, x_m_mode_4, x_m_mode_5, x_m_mode_8]
theorem A_pos {f : Nat → Nat} (h : nz f) (hb : (gst c1 f 9).2 = false) : 0 < (gst c1 f 9).1 := by
  have h1 : sm (fun l => c1 l * f l) 9 ≤ MX := by
    rcases Nat.lt_or_ge MX (sm (fun l => c1 l * f l) 9) with e | e
    · rw [gst_bad _ _ _ e] at hb; exact absurd hb (by decide)
    · exact e
  rw [gst_ok _ _ _ h1]
  obtain ⟨l, hl, h0⟩ := h
  have h2 : ∀ n, l < n → 0 < sm (fun l => c1 l * f l) n := by
    intro n
    induction n with
    | zero => intro e; omega
    | succ n ih =>
      intro e
      show 0 < sm (fun l => c1 l * f l) n + c1 n * f n
      by_cases e2 : l = n
      · subst e2; have : c1 l * f l = f l := Nat.one_mul _; omega
      · have := ih (by omega); omega
  exact h2 9 hl
def vMean (f : Nat → Nat) (p : Nat) : Int64 := frR ((gst cl f 9).2 || (gst c1 f 9).2) (gst cl f 9).1 (gst c1 f 9).1 p
def vTell (G f : Nat → Nat) (i p : Nat) : Int64 := frR ((gst f (tel G i) 9).2 || (gst c1 f 9).2) (gst f (tel G i) 9).1 (gst c1 f 9).1 p
def vRight (G f : Nat → Nat) (i p : Nat) : Int64 := frR (((gst f (rgt G i) 9).2 || (gst c1 f 9).2) || tf 16 (gst c1 f 9).1) (gst f (rgt G i) 9).1 (tv 16 (gst c1 f 9).1) p
end REF6
