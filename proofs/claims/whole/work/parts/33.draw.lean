section DRAW
variable {d : Nat} {iv : mI} {jv : mJ} {Q : Option Value → mH → Prop} {G : Nat → Nat} {f : Nat → Nat}
theorem up_ne {G : Nat → Nat} {k v j : Nat} (h : j ≠ k) : up G k v j = G j := by unfold up; rw [if_neg h]
theorem up_at (G : Nat → Nat) (k v : Nat) : up G k v k = v := by unfold up; rw [if_pos rfl]
theorem RG_up {jv : mJ} {G : Nat → Nat} (h : ∀ k, k < 101 → jv 119 k = lN (G k)) (j v : Nat) : ∀ k, k < 101 → upj jv 119 j (lN v) 119 k = lN (up G j v k) := by
  intro k hk
  by_cases e : k = j
  · subst e; rw [upj_at, up_at]
  · rw [upj_nk e, up_ne e, h k hk]
def asG (G : Nat → Nat) (i r : Nat) : Nat → Nat := up (up (up (up G (42 + 6 * i) (G (42 + 6 * i) + 1)) (85 + 2 * G 36) i) (85 + 2 * G 36 + 1) r) 36 (G 36 + 1)
theorem asG_ne {G : Nat → Nat} {i r j : Nat} (h1 : j ≠ 36) (h2 : j ≠ 85 + 2 * G 36 + 1) (h3 : j ≠ 85 + 2 * G 36) (h4 : j ≠ 42 + 6 * i) : asG G i r j = G j := by
  unfold asG; rw [up_ne h1, up_ne h2, up_ne h3, up_ne h4]
theorem asG_36 (G : Nat → Nat) (i r : Nat) : asG G i r 36 = G 36 + 1 := up_at _ _ _
theorem asG_i (G : Nat → Nat) (i r : Nat) : asG G i r (85 + 2 * G 36) = i := by
  unfold asG; rw [up_ne (by omega), up_ne (by omega), up_at]
theorem asG_r (G : Nat → Nat) (i r : Nat) : asG G i r (85 + 2 * G 36 + 1) = r := by
  unfold asG; rw [up_ne (by omega), up_at]
theorem asG_g {G : Nat → Nat} {i r : Nat} (hi : i < 8) : asG G i r (42 + 6 * i) = G (42 + 6 * i) + 1 := by
  unfold asG; rw [up_ne (by omega), up_ne (by omega), up_ne (by omega), up_at]
theorem sp_m_asks {i r : Nat} (hG : ∀ k, k < 101 → jv 119 k = lN (G k)) (hi : i < 8) (hr : r < 2) (h36 : G 36 < 8) (hQ : ∀ jv', (∀ k, k < 101 → jv' 119 k = lN (asG G i r k)) → (∀ q k, q ≠ 119 → jv' q k = jv q k) → Q none (mk iv jv')) : XM (d + 3) Ym_asks [.ref 118, .int (nI i), .int (nI r)] iv jv Q := by
  have g1 := RG_up hG (42 + 6 * i) (G (42 + 6 * i) + 1)
  have g2 := RG_up g1 (85 + 2 * G 36) i
  have g3 := RG_up g2 (85 + 2 * G 36 + 1) r
  have g4 := RG_up g3 36 (G 36 + 1)
  have s1 := fun Q : Option Value → mH → Prop => sp_m_answers (d := d) (iv := iv) (Q := Q) g1
  have s2 := fun Q : Option Value → mH → Prop => sp_m_answers (d := d) (iv := iv) (Q := Q) g2
  rw [up_ne (by omega)] at s1
  rw [up_ne (by omega), up_ne (by omega)] at s2
  have r1 := hG (42 + 6 * i) (by omega)
  have r3 := g3 36 (by omega)
  rw [up_ne (by omega), up_ne (by omega), up_ne (by omega)] at r3
  have e1 : 37 + 6 * i + 5 = 42 + 6 * i := by omega
  have e2 : 42 + 6 * i < 101 := by omega
  have e3 : 85 + 2 * G 36 < 101 := by omega
  have e4 : 85 + 2 * G 36 + 1 < 101 := by omega
  simp (disch := first | assumption | omega) only [e_m_asks, x_m_asks_0, x_m_asks_1, x_m_asks_4, x_m_asks_6, x_m_asks_8, x_m_asks_9, x_m_asks_10, x_m_asks_11, x_m_asks_12, x_m_asks_13, x_m_asks_14, x_m_asks_15, x_m_asks_16, x_m_asks_17, x_m_asks_18, x_m_asks_19, x_m_asks_22, x_m_asks_24, x_m_asks_25, x_m_asks_26, x_m_asks_29, x_m_asks_30, x_m_asks_31, x_m_asks_32, x_m_asks_33, x_m_asks_34, x_m_asks_35, x_m_asks_38, x_m_asks_40, x_m_asks_41, x_m_asks_42, x_m_asks_45, x_m_asks_46, x_m_asks_47, x_m_asks_48, x_m_asks_49, x_m_asks_50, x_m_asks_51, x_m_asks_52, x_m_asks_53, x_m_asks_56, x_m_asks_58, x_m_asks_59, x_m_asks_60, x_m_asks_61, x_m_asks_62, x_m_asks_63, q_mul, q_add, e1, q_in, q_tn, true_and, r1, q_ladd, s1, s2, XK_s, q_i2l, r3]
  refine hQ _ g4 (fun q k hq => ?_)
  rw [upj_ne hq, upj_ne hq, upj_ne hq, upj_ne hq]
theorem copy_fin : (shp 119).1 = 17 ∧ (shp 119).2 = 101 ∧ (shp 121).1 = 17 ∧ (shp 121).2 = 101 := by decide
def cpG (jv : mJ) (a b n : Nat) : mJ := fun q k => if q = b ∧ k < n then jv a k else jv q k
theorem cpG_s {jv : mJ} {a b n : Nat} (hab : a ≠ b) : upj (cpG jv a b n) b n (cpG jv a b n a n) = cpG jv a b (n + 1) := by
  funext q k
  have e : cpG jv a b n a n = jv a n := by unfold cpG; rw [if_neg (fun z => hab z.1)]
  rw [e]
  unfold upj cpG
  by_cases h : q = b
  · by_cases h2 : k = n
    · subst h2; simp [h]
    · by_cases h3 : k < n
      · simp [h, h2, h3]; intro; omega
      · simp [h, h2, h3]; intro; omega
  · simp [h]
theorem lp_m_copies {a b : Nat} (hab : a ≠ b) (ha : (shp a).1 = 17 ∧ (shp a).2 = 101) (hb : (shp b).1 = 17 ∧ (shp b).2 = 101) : ∀ n k, k + n = 101 → XT d Ym_copies 2 [.ref a, .ref b, .int (nI k)] [] iv (cpG jv a b k) Q = Q none (mk iv (cpG jv a b 101)) := by
  intro n
  induction n with
  | zero =>
    intro k hk
    obtain rfl : k = 101 := by omega
    rw [x_m_copies_2]
    simp (disch := omega) only [x_m_copies_0, x_m_copies_1, x_m_copies_3, x_m_copies_5, x_m_copies_8, x_m_copies_9, x_m_copies_10, x_m_copies_11, x_m_copies_12, x_m_copies_13, x_m_copies_14, x_m_copies_17, x_m_copies_20, q_le, Nat.le_refl, if_true]
  | succ n ih =>
    intro k hk
    have h4 : ¬ 101 ≤ k := by omega
    rw [x_m_copies_2]
    simp (disch := omega) only [x_m_copies_0, x_m_copies_1, x_m_copies_3, x_m_copies_5, x_m_copies_8, x_m_copies_9, x_m_copies_10, x_m_copies_11, x_m_copies_12, x_m_copies_13, x_m_copies_14, x_m_copies_17, x_m_copies_20, q_le, h4, if_false, ha.1, ha.2, hb.1, hb.2, q_in, q_tn, true_and, q_add, cpG_s hab]
    exact ih (k + 1) (by omega)
theorem sp_m_copies {a b : Nat} (hab : a ≠ b) (ha : (shp a).1 = 17 ∧ (shp a).2 = 101) (hb : (shp b).1 = 17 ∧ (shp b).2 = 101) : XM (d + 1) Ym_copies [.ref a, .ref b] iv jv Q = Q none (mk iv (cpG jv a b 101)) := by
  simp only [e_m_copies, x_m_copies_0, x_m_copies_1, x_m_copies_3, x_m_copies_5, x_m_copies_8, x_m_copies_9, x_m_copies_10, x_m_copies_11, x_m_copies_12, x_m_copies_13, x_m_copies_14, x_m_copies_17, x_m_copies_20]
  have h := lp_m_copies (d := d) (iv := iv) (jv := jv) (Q := Q) hab ha hb 101 0 (by omega)
  have e : cpG jv a b 0 = jv := by funext q k; simp [cpG]
  rw [e] at h
  exact h
theorem cpG_at {jv : mJ} {a b k : Nat} (hk : k < 101) : cpG jv a b 101 b k = jv a k := by unfold cpG; rw [if_pos ⟨rfl, hk⟩]
theorem cpG_ne {jv : mJ} {a b q k : Nat} (h : q ≠ b) : cpG jv a b 101 q k = jv q k := by unfold cpG; rw [if_neg (fun z => h z.1)]
/-! the answers of a TEST: each ITEM is asked once -/
def DS (G : Nat → Nat) : Prop := ∀ k, k < G 36 → G (85 + 2 * k) < G 29 ∧ ∀ k', k' < k → G (85 + 2 * k') ≠ G (85 + 2 * k)
theorem cntB_or : ∀ s, s < 256 → ∀ i, i < 8 → s.testBit i = false → cntB (s ||| 2 ^ i) 8 = cntB s 8 + 1 := by decide +kernel
theorem askB_cnt {G : Nat → Nat} (h5 : ∀ k, k < 8 → G (85 + 2 * k) < 8) (hD : DS G) : ∀ n, n ≤ G 36 → n ≤ 8 → cntB (askB G n) 8 = n
  | 0, _, _ => by show cntB 0 8 = 0; decide
  | n + 1, hn, h8 => by
    have ih := askB_cnt h5 hD n (by omega) (by omega)
    have h1 := (hD n (by omega)).2
    have h2 : (askB G n).testBit (G (85 + 2 * n)) = false := by
      apply Bool.eq_false_iff.mpr
      intro h
      rw [askB_bit] at h
      obtain ⟨k, hk, e⟩ := h
      exact h1 k hk e
    show cntB (askB G n ||| 2 ^ G (85 + 2 * n)) 8 = n + 1
    rw [cntB_or _ (askB_lt h5 n (by omega)) _ (h5 n (by omega)) h2, ih]
theorem free_36 {G : Nat → Nat} (hB : IB G) (hD : DS G) {i : Nat} (hi : i < 8) (h : (askB G (G 36)).testBit i = false) : G 36 < 8 := by
  have h5 : ∀ k, k < 8 → G (85 + 2 * k) < 8 := fun k hk => (hB.2.2.2.2.1 k hk).1
  have h1 := askB_cnt h5 hD (G 36) (Nat.le_refl _) hB.2.1
  have h2 := cntB_or _ (askB_lt h5 _ hB.2.1) i hi h
  have h3 := cntB_le (askB G (G 36) ||| 2 ^ i) 8
  omega
theorem IB_as {G : Nat → Nat} {i r : Nat} (hB : IB G) (hi : i < 8) (hr : r < 2) (h36 : G 36 < 8) (hg : G (42 + 6 * i) < 1000) : IB (asG G i r) := by
  obtain ⟨b1, b2, b3, b4, b5, b6, b7, b8, b9, b10, b11, b12, b13⟩ := hB
  have e : ∀ j, j < 42 → j ≠ 36 → asG G i r j = G j := fun j h1 h2 => asG_ne h2 (by omega) (by omega) (by omega)
  refine ⟨?_, ?_, ?_, ?_, ?_, ?_, ?_, ?_, ?_, ?_, ?_, ?_, ?_⟩
  · rw [e 29 (by decide) (by decide)]; exact b1
  · rw [asG_36]; omega
  · rw [e 35 (by decide) (by decide)]; exact b3
  · intro j hj
    have := b4 j hj
    rw [asG_ne (by omega) (by omega) (by omega) (by omega), asG_ne (by omega) (by omega) (by omega) (by omega), asG_ne (by omega) (by omega) (by omega) (by omega), asG_ne (by omega) (by omega) (by omega) (by omega), asG_ne (by omega) (by omega) (by omega) (by omega)]
    refine ⟨by omega, by omega, by omega, by omega, by omega, ?_⟩
    by_cases ej : j = i
    · subst ej
      have e6 : 37 + 6 * j + 5 = 42 + 6 * j := by omega
      rw [e6, asG_g hi]; omega
    · rw [asG_ne (by omega) (by omega) (by omega) (by omega)]; omega
  · intro k hk
    have := b5 k hk
    by_cases ek : k = G 36
    · subst ek
      rw [asG_i, asG_r]; omega
    · rw [asG_ne (by omega) (by omega) (by omega) (by omega), asG_ne (by omega) (by omega) (by omega) (by omega)]; omega
  · intro l hl; rw [e l (by omega) (by omega)]; exact b6 l hl
  · intro a ha; rw [e _ (by omega) (by omega), e _ (by omega) (by omega)]; exact b7 a ha
  · intro a ha; rw [e _ (by omega) (by omega)]; exact b8 a ha
  · rw [e 30 (by decide) (by decide)]; exact b9
  · rw [e 31 (by decide) (by decide)]; exact b10
  · rw [e 32 (by decide) (by decide)]; exact b11
  · rw [e 33 (by decide) (by decide)]; exact b12
  · rw [e 34 (by decide) (by decide)]; exact b13
theorem DS_as {G : Nat → Nat} {i r : Nat} (hD : DS G) (hi : i < G 29) (h36 : G 36 < 8) (hi8 : i < 8) (h : (askB G (G 36)).testBit i = false) : DS (asG G i r) := by
  intro k hk
  rw [asG_36] at hk
  have e29 : asG G i r 29 = G 29 := asG_ne (by omega) (by omega) (by omega) (by omega)
  have hne : ∀ k, k < G 36 → asG G i r (85 + 2 * k) = G (85 + 2 * k) := fun k hk => asG_ne (by omega) (by omega) (by omega) (by omega)
  rw [e29]
  by_cases ek : k = G 36
  · subst ek
    rw [asG_i]
    refine ⟨hi, fun k' hk' => ?_⟩
    rw [hne k' hk']
    intro e
    have : (askB G (G 36)).testBit i = true := (askB_bit i (G 36)).mpr ⟨k', hk', e⟩
    rw [h] at this
    exact absurd this (by decide)
  · have hk2 : k < G 36 := by omega
    rw [hne k hk2]
    refine ⟨(hD k hk2).1, fun k' hk' => ?_⟩
    rw [hne k' (by omega)]
    exact (hD k hk2).2 k' hk'
theorem nz_as {G : Nat → Nat} {i r : Nat} (hn : nz (wt G 0)) (hi : i < 8) : nz (wt (asG G i r) 0) := by
  have e : ∀ j, j < 42 → j ≠ 36 → asG G i r j = G j := fun j h1 h2 => asG_ne h2 (by omega) (by omega) (by omega)
  obtain ⟨l, hl, h⟩ := hn
  refine ⟨l, hl, ?_⟩
  show (if asG G i r 34 = 1 then asG G i r (9 + l) else asG G i r l) ≠ 0
  rw [e 34 (by decide) (by decide), e (9 + l) (by omega) (by omega), e l (by omega) (by omega)]
  exact h
theorem nxs_bit (G : Nat → Nat) (s : Nat) : ∀ k, (nxs G s k).1 ≠ 0 → s.testBit ((nxs G s k).1 - 1) = true ∧ (nxs G s k).1 - 1 < k
  | 0, h => absurd rfl h
  | k + 1, h => by
    have ih := nxs_bit G s k
    rw [nxs_s] at h ⊢
    by_cases h1 : s.testBit k = true
    · rw [if_pos h1] at h ⊢
      by_cases h2 : (nxs G s k).2.1 ≤ (Tn G k).1
      · rw [if_pos h2]; exact ⟨by simpa using h1, by dsimp only; omega⟩
      · rw [if_neg h2] at h ⊢
        have := ih h
        exact ⟨this.1, by dsimp only; omega⟩
    · rw [if_neg h1] at h ⊢
      have := ih h
      exact ⟨this.1, by omega⟩
end DRAW
