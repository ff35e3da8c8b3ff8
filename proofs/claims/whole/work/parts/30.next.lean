section NEXT
variable {d : Nat} {iv : mI} {jv : mJ} {Q : Option Value → mH → Prop} {G : Nat → Nat} {f : Nat → Nat}
def nxs (G : Nat → Nat) (s : Nat) : Nat → Nat × Nat × Bool
  | 0 => (0, 0, false)
  | n + 1 => if s.testBit n = true then (if (nxs G s n).2.1 ≤ (Tn G n).1 then (n + 1, (Tn G n).1 + 1, (nxs G s n).2.2 || (Tn G n).2) else ((nxs G s n).1, (nxs G s n).2.1, (nxs G s n).2.2 || (Tn G n).2)) else nxs G s n
theorem nxs_s (G : Nat → Nat) (s n : Nat) : nxs G s (n + 1) = if s.testBit n = true then (if (nxs G s n).2.1 ≤ (Tn G n).1 then (n + 1, (Tn G n).1 + 1, (nxs G s n).2.2 || (Tn G n).2) else ((nxs G s n).1, (nxs G s n).2.1, (nxs G s n).2.2 || (Tn G n).2)) else nxs G s n := rfl
theorem nxs_lt (G : Nat → Nat) (s : Nat) : ∀ k, (nxs G s k).2.1 < 9223372036854775809
  | 0 => by show 0 < _; decide
  | k + 1 => by
    have := nxs_lt G s k
    have h := Tn_lt G k
    rw [nxs_s]
    split
    · split
      · dsimp only; omega
      · dsimp only; omega
    · omega
theorem nxs_le (G : Nat → Nat) (s : Nat) : ∀ k, (nxs G s k).1 ≤ k
  | 0 => Nat.le_refl _
  | k + 1 => by
    have := nxs_le G s k
    rw [nxs_s]
    split
    · split
      · dsimp only; omega
      · dsimp only; omega
    · omega
def nxN (G : Nat → Nat) : Nat × Nat × Bool := nxs G (dif (scN G).1 (askB G (G 36))) (G 29)
def isNx (G : Nat → Nat) : Prop := (scN G).2.2 = false ∧ (scN G).2.1 ≠ 0
def nxV (G : Nat → Nat) : Int32 := if (scN G).2.2 = true then -7 else if (scN G).2.1 = 0 then -8 else bo (nxN G).1
theorem lp_m_nextNow {s : Nat} (hG : ∀ k, k < 101 → jv 119 k = lN (G k)) (hB : IB G) (hs : s < 256) (hW : ∀ l, l < 9 → jv 122 l = lN (WN G l)) : ∀ n i, i + n = G 29 → ∀ u6 u7, XT (d + 7) Ym_nextNow 20 [.ref 118, .int (nI s), .int (bo (nxs G (dif s (askB G (G 36))) i).1), .long (mo (nxs G (dif s (askB G (G 36))) i).2.1), mW, .int (nI i), u6, u7] [] (fl iv (nxs G (dif s (askB G (G 36))) i).2.2) jv Q = Q (some (.int (bo (nxs G (dif s (askB G (G 36))) (G 29)).1))) (mk (fl iv (nxs G (dif s (askB G (G 36))) (G 29)).2.2) jv) := by
  have hb := hB.1
  have g29 := hG 29 (by decide)
  have h10 := dif_lt (s := askB G (G 36)) hs
  intro n
  induction n with
  | zero =>
    intro i hi u6 u7
    obtain rfl : i = G 29 := by omega
    rw [x_m_nextNow_20]
    simp (disch := omega) only [x_m_nextNow_0, x_m_nextNow_1, x_m_nextNow_4, x_m_nextNow_5, x_m_nextNow_6, x_m_nextNow_9, x_m_nextNow_10, x_m_nextNow_11, x_m_nextNow_12, x_m_nextNow_13, x_m_nextNow_16, x_m_nextNow_17, x_m_nextNow_18, x_m_nextNow_22, x_m_nextNow_23, x_m_nextNow_24, x_m_nextNow_27, x_m_nextNow_29, x_m_nextNow_30, x_m_nextNow_31, x_m_nextNow_34, x_m_nextNow_35, x_m_nextNow_36, x_m_nextNow_39, x_m_nextNow_40, x_m_nextNow_41, x_m_nextNow_42, x_m_nextNow_43, x_m_nextNow_45, x_m_nextNow_48, x_m_nextNow_51, x_m_nextNow_54, x_m_nextNow_55, x_m_nextNow_57, x_m_nextNow_60, x_m_nextNow_62, x_m_nextNow_64, x_m_nextNow_65, x_m_nextNow_66, x_m_nextNow_69, x_m_nextNow_71, x_m_nextNow_72, x_m_nextNow_74, x_m_nextNow_75, x_m_nextNow_78, x_m_nextNow_81, x_m_nextNow_82, q_i2l, q_in, q_tn, true_and, g29, c_ge, q_lle, Nat.le_refl, if_true]
  | succ n ih =>
    intro i hi u6 u7
    have h4 : ¬ G 29 ≤ i := by omega
    have h5 := Tn_lt G i
    have h6 := nxs_lt G (dif s (askB G (G 36))) i
    have h8 := ih (i + 1) (by omega)
    have h9 : i < 8 := by omega
    rw [nxs_s] at h8
    rw [x_m_nextNow_20]
    simp (disch := first | assumption | omega) only [x_m_nextNow_0, x_m_nextNow_1, x_m_nextNow_4, x_m_nextNow_5, x_m_nextNow_6, x_m_nextNow_9, x_m_nextNow_10, x_m_nextNow_11, x_m_nextNow_12, x_m_nextNow_13, x_m_nextNow_16, x_m_nextNow_17, x_m_nextNow_18, x_m_nextNow_22, x_m_nextNow_23, x_m_nextNow_24, x_m_nextNow_27, x_m_nextNow_29, x_m_nextNow_30, x_m_nextNow_31, x_m_nextNow_34, x_m_nextNow_35, x_m_nextNow_36, x_m_nextNow_39, x_m_nextNow_40, x_m_nextNow_41, x_m_nextNow_42, x_m_nextNow_43, x_m_nextNow_45, x_m_nextNow_48, x_m_nextNow_51, x_m_nextNow_54, x_m_nextNow_55, x_m_nextNow_57, x_m_nextNow_60, x_m_nextNow_62, x_m_nextNow_64, x_m_nextNow_65, x_m_nextNow_66, x_m_nextNow_69, x_m_nextNow_71, x_m_nextNow_72, x_m_nextNow_74, x_m_nextNow_75, x_m_nextNow_78, x_m_nextNow_81, x_m_nextNow_82, q_i2l, q_in, q_tn, true_and, g29, c_ge, q_lle, h4, if_false, sp_m_asked hG hB, nI_dif, sp_m_has, XK_s, b01_eq0, sp_tellsAll hG hB h9 hW, fl_fl, q_add]
    by_cases h : (dif s (askB G (G 36))).testBit i = true
    · rw [if_pos h] at h8
      by_cases h3 : (nxs G (dif s (askB G (G 36))) i).2.1 ≤ (Tn G i).1
      · rw [if_pos h3] at h8
        simp only [mo_s, bo_s] at h8
        simp (disch := first | assumption | omega) only [h, not_true_eq_false, if_false, c_le, mo_le, h3, q_add]
        exact h8 _ _
      · rw [if_neg h3] at h8
        simp (disch := first | assumption | omega) only [h, not_true_eq_false, not_false_eq_true, if_false, if_true, c_le, mo_le, h3, q_add]
        exact h8 _ _
    · rw [if_neg h] at h8
      simp only [h, not_false_eq_true, if_true]
      exact h8 _ _
theorem scN_256 {G : Nat → Nat} (hB : IB G) : (scN G).1 < 257 := by
  have h1 := sc_le G (2 ^ G 29)
  have h2 := pow_le hB.1
  have h3 : (scN G).1 = (sc G (2 ^ G 29)).1 := rfl
  omega
theorem sc_lt2 (G : Nat → Nat) : ∀ k, (sc G k).2.1 ≠ 0 → (sc G k).1 < k
  | 0, h => absurd rfl h
  | k + 1, h => by
    have ih := sc_lt2 G k
    rw [sc_s] at h ⊢
    split at h
    · rw [if_pos ‹_›]; have := ih h; omega
    · rw [if_neg ‹_›]
      split at h
      · rw [if_pos ‹_›]
        split at h
        · rw [if_pos ‹_›]; have := ih h; dsimp only; omega
        · rw [if_neg ‹_›]
          split at h
          · rw [if_pos ‹_›]; dsimp only; omega
          · rw [if_neg ‹_›]; have := ih h; omega
      · rw [if_neg ‹_›]; have := ih h; omega
theorem n7 : ((-7 : Int32) < nI 0) = True := by simp; decide
theorem n8 : ((-8 : Int32) < nI 0) = True := by simp; decide
theorem n7' : (nI 0 ≤ (-7 : Int32)) = False := by simp; decide
theorem n8' : (nI 0 ≤ (-8 : Int32)) = False := by simp; decide
theorem sp_m_nextNow (hG : ∀ k, k < 101 → jv 119 k = lN (G k)) (hB : IB G) (hn : nz (wt G 0)) (hQ : ∀ iv' jv', FR iv jv iv' jv' → Q (some (.int (nxV G))) (mk iv' jv')) : XM (d + 8) Ym_nextNow [.ref 118] iv jv Q := by
  have hs := sc_lt2 G (2 ^ G 29)
  have h2 := pow_le hB.1
  have hG2 : ∀ k, k < 101 → stW jv (WN G) 9 119 k = lN (G k) := ne119 hG
  simp only [e_m_nextNow, x_m_nextNow_0, x_m_nextNow_1, x_m_nextNow_4, x_m_nextNow_5, x_m_nextNow_6, x_m_nextNow_9, x_m_nextNow_10, x_m_nextNow_11, x_m_nextNow_12, x_m_nextNow_13, x_m_nextNow_16, x_m_nextNow_17, x_m_nextNow_18, x_m_nextNow_22, x_m_nextNow_23, x_m_nextNow_24, x_m_nextNow_27, x_m_nextNow_29, x_m_nextNow_30, x_m_nextNow_31, x_m_nextNow_34, x_m_nextNow_35, x_m_nextNow_36, x_m_nextNow_39, x_m_nextNow_40, x_m_nextNow_41, x_m_nextNow_42, x_m_nextNow_43, x_m_nextNow_45, x_m_nextNow_48, x_m_nextNow_51, x_m_nextNow_54, x_m_nextNow_55, x_m_nextNow_57, x_m_nextNow_60, x_m_nextNow_62, x_m_nextNow_64, x_m_nextNow_65, x_m_nextNow_66, x_m_nextNow_69, x_m_nextNow_71, x_m_nextNow_72, x_m_nextNow_74, x_m_nextNow_75, x_m_nextNow_78, x_m_nextNow_81, x_m_nextNow_82, sp_m_shadowNow hG hB hn, XK_s]
  unfold shV
  unfold nxV at hQ
  have fr : ∀ b c : Bool, FR iv jv (fl (fl (upi iv 118 5 (nI 0)) b) c) (stW jv (WN G) 9) := fun b c => FR_t (FR_5 iv jv _) (FR_t (FR_fl _ _ b) (FR_t (FR_fl _ _ c) (FR_w _ _ _ _)))
  by_cases h : (scN G).2.2 = true
  · rw [if_pos h] at hQ ⊢
    simp only [n7, n7', if_true, if_false]
    exact hQ _ _ (fr _ false)
  · rw [if_neg h] at hQ ⊢
    by_cases h3 : (scN G).2.1 = 0
    · rw [if_pos h3] at hQ ⊢
      simp only [n8, n8', if_true, if_false]
      exact hQ _ _ (fr _ false)
    · rw [if_neg h3] at hQ ⊢
      have h5 : (scN G).1 < 2 ^ G 29 := hs h3
      have h6 : (scN G).1 < 256 := by omega
      have h7 : ¬ (scN G).1 < 0 := by omega
      have hl := fun u6 u7 => lp_m_nextNow (d := d) (iv := fl (upi iv 118 5 (nI 0)) (scN G).2.2) (jv := stW jv (WN G) 9) (Q := Q) hG2 hB h6 (fun l hl => stW_lt hl) (G 29) 0 (by omega) u6 u7
      simp (disch := first | assumption | omega) only [q_lt, q_le, h7, Nat.zero_le, if_true, if_false]
      refine (hl _ _).mpr ?_
      exact hQ _ _ (fr _ _)
theorem sp_m_next (hG : ∀ k, k < 101 → jv 119 k = lN (G k)) (hB : IB G) (hn : nz (wt G 0)) (hQ : ∀ iv' jv', FR iv jv iv' jv' → Q (some (.int (if G 34 = 1 then nxV G else -3))) (mk iv' jv')) : XM (d + 9) Ym_next [.ref 118] iv jv Q := by
  obtain ⟨b1, b2, b3, b4, b5, b6, b7, b8, b9, b10, b11, b12, b13⟩ := id hB
  have g34 := hG 34 (by decide)
  simp only [e_m_next, x_m_next_0, x_m_next_1, x_m_next_4, x_m_next_7, x_m_next_8, x_m_next_11, x_m_next_14, x_m_next_16, sp_m_isOn g34 b13, XK_s, b01_eq0]
  by_cases h : G 34 = 1
  · simp only [h, not_true_eq_false, if_false, if_true] at hQ ⊢
    refine sp_m_nextNow hG hB hn (fun iv' jv' hF => ?_)
    simp only [XK_s, x_m_next_0, x_m_next_1, x_m_next_4, x_m_next_7, x_m_next_8, x_m_next_11, x_m_next_14, x_m_next_16]
    exact hQ _ _ hF
  · simp only [h, not_false_eq_true, if_false, if_true] at hQ ⊢
    exact hQ _ _ (FR_r _ _)
end NEXT
