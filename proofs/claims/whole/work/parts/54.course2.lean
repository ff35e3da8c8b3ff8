section COURSE2
variable {d : Nat} {iv : mI} {jv : mJ} {Q : Option Value → mH → Prop} {G : Nat → Nat} {B : Nat}
theorem aoR_m (G : Nat → Nat) (i : Nat) (h1 : ∀ k, k < 8 → G (85 + 2 * k + 1) ≤ 1) : ∀ n k, k + n ≤ 8 → (aoR G i n k = -1 ↔ ∀ j, k ≤ j → j < k + n → G (85 + 2 * j) ≠ i)
  | 0, k, _ => by
    constructor
    · intro _ j h2 h3; omega
    · intro _; rfl
  | n + 1, k, hk => by
    have ih := aoR_m G i h1 n (k + 1) (by omega)
    rw [aoR_s]
    by_cases e : G (85 + 2 * k) = i
    · rw [if_pos e]
      have h := h1 k (by omega)
      constructor
      · intro h2
        rw [nm0' (by omega)] at h2
        exact h2.elim
      · intro h2
        exact absurd e (h2 k (Nat.le_refl _) (by omega))
    · rw [if_neg e, ih]
      constructor
      · intro h2 j h3 h4
        by_cases ej : j = k
        · subst ej; exact e
        · exact h2 j (by omega) (by omega)
      · intro h2 j h3 h4
        exact h2 j (by omega) (by omega)
theorem rep_m {G : Nat → Nat} (hB : IB G) (i : Nat) : aoR G i (G 36) 0 = -1 ↔ ¬ (askB G (G 36)).testBit i = true := by
  have h36 := hB.2.1
  rw [aoR_m G i (fun k hk => (hB.2.2.2.2.1 k hk).2) (G 36) 0 (by omega), askB_bit]
  constructor
  · rintro h ⟨k, h1, h2⟩
    exact h k (by omega) (by omega) h2
  · intro h j h1 h2 h3
    exact h ⟨j, by omega, h3⟩
theorem aoR_hit {G : Nat → Nat} (hD : ∀ k, k < G 36 → ∀ k', k' < k → G (85 + 2 * k') ≠ G (85 + 2 * k)) {k : Nat} (hk : k < G 36) : ∀ n j, j ≤ k → j + n = G 36 → aoR G (G (85 + 2 * k)) n j = nI (G (85 + 2 * k + 1))
  | 0, j, h1, h2 => by omega
  | n + 1, j, h1, h2 => by
    rw [aoR_s]
    by_cases e : j = k
    · subst e; rw [if_pos rfl]
    · rw [if_neg (hD k hk j (by omega))]
      exact aoR_hit hD hk n (j + 1) (by omega) (by omega)
theorem rep_at {G : Nat → Nat} (hD : DS G) {k : Nat} (hk : k < G 36) : aoR G (G (85 + 2 * k)) (G 36) 0 = nI (G (85 + 2 * k + 1)) :=
  aoR_hit (fun k hk => (hD k hk).2) hk (G 36) 0 (by omega) (by omega)
/-! othersAreZero, askedOf -/
theorem lp_o_others {l : Nat} (hb : isB B) (hl : l < 9) (hB : IB G) (hP : ∀ l, l < 9 → iv (B + 1) l = nI (G l)) : ∀ n k, k + n = 9 → oth G l k = 0 → XT d Yo_othersAreZero 2 [.ref B, .int (nI l), .int (nI k)] [] iv jv Q = Q (some (.int (b01 (oth G l 9 = 0)))) (mk iv jv) := by
  obtain ⟨s0, s1, s2, s3, s4, s5, s6, s7, s8, s9, s10, s11⟩ := sB hb
  have n1 := ne1001 (k := 1) hb (by decide)
  have b6 := hB.2.2.2.2.2.1
  have mono : ∀ n k, oth G l k ≤ oth G l (k + n) := by
    intro n
    induction n with
    | zero => intro k; exact Nat.le_refl _
    | succ n ih => intro k; rw [← Nat.add_assoc, oth_s]; have := ih k; omega
  intro n
  induction n with
  | zero =>
    intro k hk h0
    obtain rfl : k = 9 := by omega
    rw [x_o_othersAreZero_2, b01_t h0]
    simp (disch := first | assumption | omega) only [x_o_othersAreZero_0, x_o_othersAreZero_1, x_o_othersAreZero_3, x_o_othersAreZero_5, x_o_othersAreZero_8, x_o_othersAreZero_9, x_o_othersAreZero_10, x_o_othersAreZero_13, x_o_othersAreZero_14, x_o_othersAreZero_17, x_o_othersAreZero_18, x_o_othersAreZero_19, x_o_othersAreZero_22, x_o_othersAreZero_23, x_o_othersAreZero_24, x_o_othersAreZero_27, x_o_othersAreZero_30, x_o_othersAreZero_31, q_le, Nat.le_refl, if_true, z11, or_true, true_and]
  | succ n ih =>
    intro k hk h0
    have h4 : ¬ 9 ≤ k := by omega
    have hp := hP k (by omega)
    have h6 := b6 k (by omega)
    have h8 := ih (k + 1) (by omega)
    rw [oth_s, h0, Nat.zero_add] at h8
    rw [x_o_othersAreZero_2]
    by_cases e : k = l
    · rw [if_pos e] at h8
      simp (disch := first | assumption | omega) only [x_o_othersAreZero_0, x_o_othersAreZero_1, x_o_othersAreZero_3, x_o_othersAreZero_5, x_o_othersAreZero_8, x_o_othersAreZero_9, x_o_othersAreZero_10, x_o_othersAreZero_13, x_o_othersAreZero_14, x_o_othersAreZero_17, x_o_othersAreZero_18, x_o_othersAreZero_19, x_o_othersAreZero_22, x_o_othersAreZero_23, x_o_othersAreZero_24, x_o_othersAreZero_27, x_o_othersAreZero_30, x_o_othersAreZero_31, q_le, h4, if_false, q_eq, eq_true e, if_true, q_add]
      exact h8 rfl
    · rw [if_neg e] at h8
      by_cases e2 : G k = 0
      · simp (disch := first | assumption | omega) only [x_o_othersAreZero_0, x_o_othersAreZero_1, x_o_othersAreZero_3, x_o_othersAreZero_5, x_o_othersAreZero_8, x_o_othersAreZero_9, x_o_othersAreZero_10, x_o_othersAreZero_13, x_o_othersAreZero_14, x_o_othersAreZero_17, x_o_othersAreZero_18, x_o_othersAreZero_19, x_o_othersAreZero_22, x_o_othersAreZero_23, x_o_othersAreZero_24, x_o_othersAreZero_27, x_o_othersAreZero_30, x_o_othersAreZero_31, q_le, h4, if_false, q_eq, eq_false e, if_true, s0, s1, n1, true_and, true_or, q_in, q_tn, hp, qn0, eq_true e2, q_add]
        exact h8 e2
      · have e3 : ¬ oth G l 9 = 0 := by
          have h1 := mono n (k + 1)
          rw [oth_s, if_neg e, show k + 1 + n = 9 from by omega] at h1
          omega
        rw [b01_f e3]
        simp (disch := first | assumption | omega) only [x_o_othersAreZero_0, x_o_othersAreZero_1, x_o_othersAreZero_3, x_o_othersAreZero_5, x_o_othersAreZero_8, x_o_othersAreZero_9, x_o_othersAreZero_10, x_o_othersAreZero_13, x_o_othersAreZero_14, x_o_othersAreZero_17, x_o_othersAreZero_18, x_o_othersAreZero_19, x_o_othersAreZero_22, x_o_othersAreZero_23, x_o_othersAreZero_24, x_o_othersAreZero_27, x_o_othersAreZero_30, x_o_othersAreZero_31, q_le, h4, if_false, q_eq, eq_false e, if_true, s0, s1, n1, true_and, true_or, q_in, q_tn, hp, qn0, eq_false e2, z01]
theorem sp_o_others {l : Nat} (hb : isB B) (hl : l < 9) (hB : IB G) (hP : ∀ l, l < 9 → iv (B + 1) l = nI (G l)) : XM (d + 1) Yo_othersAreZero [.ref B, .int (nI l)] iv jv Q = Q (some (.int (b01 (oth G l 9 = 0)))) (mk iv jv) := by
  simp (disch := first | assumption | omega) only [e_o_othersAreZero, x_o_othersAreZero_0, x_o_othersAreZero_1, x_o_othersAreZero_3, x_o_othersAreZero_5, x_o_othersAreZero_8, x_o_othersAreZero_9, x_o_othersAreZero_10, x_o_othersAreZero_13, x_o_othersAreZero_14, x_o_othersAreZero_17, x_o_othersAreZero_18, x_o_othersAreZero_19, x_o_othersAreZero_22, x_o_othersAreZero_23, x_o_othersAreZero_24, x_o_othersAreZero_27, x_o_othersAreZero_30, x_o_othersAreZero_31]
  exact lp_o_others hb hl hB hP 9 0 (by omega) rfl
theorem lp_o_askedOf {a : Nat} (hb : isB B) (hC : CR B G iv jv) (hB : IB G) (ha : a < 3) : ∀ n i, i + n = G 29 → XT d Yo_askedOf 4 [.ref B, .int (nI a), .int (nI (inA G (askB G (G 36)) a i)), .int (nI i)] [] iv jv Q = Q (some (.int (nI (inK G a)))) (mk iv jv) := by
  obtain ⟨⟨c4, c5, c6, c7, c9, c11, c14⟩, cp, ca, cb, cw, ck, cm, ci, ch⟩ := hC
  obtain ⟨s0, s1, s2, s3, s4, s5, s6, s7, s8, s9, s10, s11⟩ := sB hb
  have b1 := hB.1
  have e18 : ((18 : Nat) = 18 ∨ (18 : Nat) = 19) = True := by simp
  intro n
  induction n with
  | zero =>
    intro i hi
    obtain rfl : i = G 29 := by omega
    rw [x_o_askedOf_4]
    simp (disch := first | assumption | omega) only [x_o_askedOf_0, x_o_askedOf_1, x_o_askedOf_2, x_o_askedOf_3, x_o_askedOf_5, x_o_askedOf_6, x_o_askedOf_9, x_o_askedOf_12, x_o_askedOf_13, x_o_askedOf_16, x_o_askedOf_17, x_o_askedOf_18, x_o_askedOf_21, x_o_askedOf_22, x_o_askedOf_25, x_o_askedOf_26, x_o_askedOf_29, x_o_askedOf_30, x_o_askedOf_31, x_o_askedOf_34, x_o_askedOf_35, x_o_askedOf_38, x_o_askedOf_41, x_o_askedOf_44, x_o_askedOf_47, x_o_askedOf_48, s0, true_and, c9, q_le, Nat.le_refl, if_true]
    rfl
  | succ n ih =>
    intro i hi
    have h4 : ¬ G 29 ≤ i := by omega
    have hi8 : i < 8 := by omega
    obtain ⟨⟨f0, f1, f2, f3, f4, f5, f6, f7⟩, fr, ft⟩ := ci i (by omega)
    obtain ⟨t0, t1, t2⟩ := sI hb hi8
    have b4 := (hB.2.2.2.1 i hi8).2.1
    have h8 := ih (i + 1) (by omega)
    rw [inA_s] at h8
    have hrep := rep_m hB i
    rw [x_o_askedOf_4]
    by_cases p1 : (askB G (G 36)).testBit i = true
    · have p1' : ¬ aoR G i (G 36) 0 = -1 := fun h => hrep.mp h p1
      by_cases p2 : G (37 + 6 * i + 1) = a
      · rw [if_pos ⟨p1, p2⟩] at h8
        simp (disch := first | assumption | omega) only [x_o_askedOf_0, x_o_askedOf_1, x_o_askedOf_2, x_o_askedOf_3, x_o_askedOf_5, x_o_askedOf_6, x_o_askedOf_9, x_o_askedOf_12, x_o_askedOf_13, x_o_askedOf_16, x_o_askedOf_17, x_o_askedOf_18, x_o_askedOf_21, x_o_askedOf_22, x_o_askedOf_25, x_o_askedOf_26, x_o_askedOf_29, x_o_askedOf_30, x_o_askedOf_31, x_o_askedOf_34, x_o_askedOf_35, x_o_askedOf_38, x_o_askedOf_41, x_o_askedOf_44, x_o_askedOf_47, x_o_askedOf_48, s0, s5, e18, true_and, true_or, c9, q_le, h4, if_false, if_true, q_in, q_tn, rI hb, t0, f7, f1, eq_false p1', q_eq, eq_true p2, q_add]
        exact h8
      · rw [if_neg (fun z => p2 z.2)] at h8
        simp (disch := first | assumption | omega) only [x_o_askedOf_0, x_o_askedOf_1, x_o_askedOf_2, x_o_askedOf_3, x_o_askedOf_5, x_o_askedOf_6, x_o_askedOf_9, x_o_askedOf_12, x_o_askedOf_13, x_o_askedOf_16, x_o_askedOf_17, x_o_askedOf_18, x_o_askedOf_21, x_o_askedOf_22, x_o_askedOf_25, x_o_askedOf_26, x_o_askedOf_29, x_o_askedOf_30, x_o_askedOf_31, x_o_askedOf_34, x_o_askedOf_35, x_o_askedOf_38, x_o_askedOf_41, x_o_askedOf_44, x_o_askedOf_47, x_o_askedOf_48, s0, s5, e18, true_and, true_or, c9, q_le, h4, if_false, if_true, q_in, q_tn, rI hb, t0, f7, f1, eq_false p1', q_eq, eq_false p2, q_add]
        exact h8
    · have p1' : aoR G i (G 36) 0 = -1 := hrep.mpr p1
      rw [if_neg (fun z => p1 z.1)] at h8
      simp (disch := first | assumption | omega) only [x_o_askedOf_0, x_o_askedOf_1, x_o_askedOf_2, x_o_askedOf_3, x_o_askedOf_5, x_o_askedOf_6, x_o_askedOf_9, x_o_askedOf_12, x_o_askedOf_13, x_o_askedOf_16, x_o_askedOf_17, x_o_askedOf_18, x_o_askedOf_21, x_o_askedOf_22, x_o_askedOf_25, x_o_askedOf_26, x_o_askedOf_29, x_o_askedOf_30, x_o_askedOf_31, x_o_askedOf_34, x_o_askedOf_35, x_o_askedOf_38, x_o_askedOf_41, x_o_askedOf_44, x_o_askedOf_47, x_o_askedOf_48, s0, s5, e18, true_and, true_or, c9, q_le, h4, if_false, if_true, q_in, q_tn, rI hb, t0, f7, eq_true p1', q_add]
      exact h8
theorem sp_o_askedOf {a : Nat} (hb : isB B) (hC : CR B G iv jv) (hB : IB G) (ha : a < 3) : XM (d + 1) Yo_askedOf [.ref B, .int (nI a)] iv jv Q = Q (some (.int (nI (inK G a)))) (mk iv jv) := by
  simp (disch := first | assumption | omega) only [e_o_askedOf, x_o_askedOf_0, x_o_askedOf_1, x_o_askedOf_2, x_o_askedOf_3, x_o_askedOf_5, x_o_askedOf_6, x_o_askedOf_9, x_o_askedOf_12, x_o_askedOf_13, x_o_askedOf_16, x_o_askedOf_17, x_o_askedOf_18, x_o_askedOf_21, x_o_askedOf_22, x_o_askedOf_25, x_o_askedOf_26, x_o_askedOf_29, x_o_askedOf_30, x_o_askedOf_31, x_o_askedOf_34, x_o_askedOf_35, x_o_askedOf_38, x_o_askedOf_41, x_o_askedOf_44, x_o_askedOf_47, x_o_askedOf_48]
  exact lp_o_askedOf hb hC hB ha (G 29) 0 (by omega)
end COURSE2
