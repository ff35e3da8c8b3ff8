section BEST1
variable {d : Nat} {iv : mI} {jv : mJ} {Q : Option Value → mH → Prop} {G : Nat → Nat} {B : Nat}
theorem sp_bitCount {s : Nat} (hs : s < 256) : XM (d + 1) Yj_bitCount [.int (nI s)] iv jv Q = Q (some (.int (nI (cntB s 8)))) (mk iv jv) := by
  simp (disch := first | assumption | omega) only [e_j_bitCount, x_j_bitCount_0, x_j_bitCount_1, x_j_bitCount_2, x_j_bitCount_3, x_j_bitCount_4, x_j_bitCount_7, x_j_bitCount_8, x_j_bitCount_9, x_j_bitCount_10, x_j_bitCount_11, x_j_bitCount_14, x_j_bitCount_15, x_j_bitCount_16, x_j_bitCount_17, x_j_bitCount_18, x_j_bitCount_21, x_j_bitCount_22, x_j_bitCount_23, x_j_bitCount_24, x_j_bitCount_25, x_j_bitCount_26, x_j_bitCount_27, x_j_bitCount_28, x_j_bitCount_29, x_j_bitCount_32, x_j_bitCount_33, x_j_bitCount_34, x_j_bitCount_35, x_j_bitCount_36, x_j_bitCount_38, x_j_bitCount_39, x_j_bitCount_40, x_j_bitCount_41, x_j_bitCount_42, x_j_bitCount_43, x_j_bitCount_45, x_j_bitCount_46, x_j_bitCount_47, x_j_bitCount_48, x_j_bitCount_49, x_j_bitCount_51, x_j_bitCount_52]
  refine congrArg (fun z => Q (some (.int z)) (mk iv jv)) ?_
  revert s; decide +kernel
theorem arS_bit (G : Nat → Nat) (a i : Nat) : ∀ n, (arS G a n).testBit i = decide (i < n ∧ G (37 + 6 * i + 1) = a)
  | 0 => by show (0 : Nat).testBit i = _; simp
  | n + 1 => by
    have ih := arS_bit G a i n
    rw [arS_s]
    by_cases h : G (37 + 6 * n + 1) = a
    · rw [if_pos h, Nat.testBit_or, ih, Nat.testBit_two_pow]
      by_cases e : i = n
      · subst e; simp [h]
      · have e' : ¬ n = i := fun z => e z.symm
        have e2 : (i < n + 1) = (i < n) := by apply propext; omega
        simp [e', e2]
    · rw [if_neg h, ih]
      by_cases e : i = n
      · subst e; simp [h]
      · have e2 : (i < n + 1) = (i < n) := by apply propext; omega
        simp [e2]
theorem cntB_s (s n : Nat) : cntB s (n + 1) = cntB s n + if s.testBit n = true then 1 else 0 := rfl
theorem cnt_ar (G : Nat → Nat) (s a N : Nat) : ∀ m, cntB (s &&& arS G a N) m = inA G s a (min m N)
  | 0 => by rw [Nat.zero_min]; rfl
  | m + 1 => by
    have ih := cnt_ar G s a N m
    rw [cntB_s, ih, Nat.testBit_and, arS_bit]
    by_cases h : m < N
    · rw [show min (m + 1) N = m + 1 from by omega, show min m N = m from by omega, inA_s]
      congr 1
      by_cases p1 : s.testBit m = true <;> by_cases p2 : G (37 + 6 * m + 1) = a <;> simp [p1, p2, h]
    · rw [show min (m + 1) N = N from by omega, show min m N = N from by omega]
      simp [h]
theorem cnt_ar8 (G : Nat → Nat) (s a : Nat) {N : Nat} (h : N ≤ 8) : cntB (s &&& arS G a N) 8 = inA G s a N := by
  rw [cnt_ar, show min 8 N = N from by omega]
theorem kq_a {s a : Nat} (hs : s < 256) (ha : a < 3) (hb : isB B) (hC : CR B G iv jv) (hB : IB G) (u3 : Value) : XT (d + 1) Yo_keepsQuotas 2 [.ref B, .int (nI s), .int (nI a), u3] [] iv jv Q = if G (18 + a) ≤ inA G s a (G 29) ∧ inA G s a (G 29) ≤ G (21 + a) then XT (d + 1) Yo_keepsQuotas 2 [.ref B, .int (nI s), .int (nI (a + 1)), .int (nI (inA G s a (G 29)))] [] iv jv Q else Q (some (.int (nI 0))) (mk iv jv) := by
  obtain ⟨⟨c4, c5, c6, c7, c9, c11, c14⟩, cp, ca, cb, cw, ck, cm, ci, ch⟩ := id hC
  obtain ⟨s0, s1, s2, s3, s4, s5, s6, s7, s8, s9, s10, s11⟩ := sB hb
  have n2 := ne1001 (k := 2) hb (by decide)
  have n3 := ne1001 (k := 3) hb (by decide)
  have n6 := ne1001 (k := 6) hb (by decide)
  have k0 := hB.2.2.2.2.2.2.1 a ha
  have b1 := hB.1
  have i0 := inA_le G s a (G 29)
  obtain ⟨l0, m0, o0⟩ := ca a ha
  have h4 : ¬ 3 ≤ a := by omega
  have hlt : s &&& arS G a (G 29) < 256 := Nat.lt_of_le_of_lt Nat.and_le_left hs
  rw [x_o_keepsQuotas_2]
  simp (disch := first | assumption | omega) only [x_o_keepsQuotas_0, x_o_keepsQuotas_1, x_o_keepsQuotas_3, x_o_keepsQuotas_4, x_o_keepsQuotas_7, x_o_keepsQuotas_8, x_o_keepsQuotas_9, x_o_keepsQuotas_12, x_o_keepsQuotas_13, x_o_keepsQuotas_14, x_o_keepsQuotas_15, x_o_keepsQuotas_18, x_o_keepsQuotas_19, x_o_keepsQuotas_20, x_o_keepsQuotas_21, x_o_keepsQuotas_24, x_o_keepsQuotas_25, x_o_keepsQuotas_26, x_o_keepsQuotas_29, x_o_keepsQuotas_30, x_o_keepsQuotas_31, x_o_keepsQuotas_34, x_o_keepsQuotas_35, x_o_keepsQuotas_36, x_o_keepsQuotas_39, x_o_keepsQuotas_40, x_o_keepsQuotas_41, x_o_keepsQuotas_44, x_o_keepsQuotas_47, x_o_keepsQuotas_48, q_le, h4, if_false, s0, s6, n6, true_and, true_or, q_in, q_tn, o0, nI_and, sp_bitCount, cnt_ar8, XK_s, s2, n2, l0, q_lt, s3, n3, m0, q_add, z01]
  by_cases p1 : inA G s a (G 29) < G (18 + a)
  · have p1' : ¬ G (18 + a) ≤ inA G s a (G 29) := by omega
    simp [p1, p1']
  · have p1' : G (18 + a) ≤ inA G s a (G 29) := by omega
    by_cases p2 : inA G s a (G 29) ≤ G (21 + a)
    · simp [p1, p1', p2]
    · simp [p1, p1', p2]
def kqB (G : Nat → Nat) (s : Nat) : Bool := decide (G (18 + 0) ≤ inA G s 0 (G 29) ∧ inA G s 0 (G 29) ≤ G (21 + 0)) && (decide (G (18 + 1) ≤ inA G s 1 (G 29) ∧ inA G s 1 (G 29) ≤ G (21 + 1)) && decide (G (18 + 2) ≤ inA G s 2 (G 29) ∧ inA G s 2 (G 29) ≤ G (21 + 2)))
theorem kqB_iff (G : Nat → Nat) (s : Nat) : kqB G s = true ↔ qA G s 0 ∧ qA G s 1 ∧ qA G s 2 := by
  unfold kqB qA
  simp only [Bool.and_eq_true, decide_eq_true_eq]
theorem sp_o_keeps {s : Nat} (hs : s < 256) (hb : isB B) (hC : CR B G iv jv) (hB : IB G) : XM (d + 2) Yo_keepsQuotas [.ref B, .int (nI s)] iv jv Q = Q (some (.int (b01 (kqB G s = true)))) (mk iv jv) := by
  simp only [e_o_keepsQuotas, x_o_keepsQuotas_0, x_o_keepsQuotas_1]
  have k0 := fun u3 => kq_a (d := d) (Q := Q) (a := 0) hs (by decide) hb hC hB u3
  have k1 := fun u3 => kq_a (d := d) (Q := Q) (a := 1) hs (by decide) hb hC hB u3
  have k2 := fun u3 => kq_a (d := d) (Q := Q) (a := 2) hs (by decide) hb hC hB u3
  rw [k0]
  unfold kqB
  by_cases p0 : G (18 + 0) ≤ inA G s 0 (G 29) ∧ inA G s 0 (G 29) ≤ G (21 + 0)
  · rw [if_pos p0, k1, decide_eq_true p0, Bool.true_and]
    by_cases p1 : G (18 + 1) ≤ inA G s 1 (G 29) ∧ inA G s 1 (G 29) ≤ G (21 + 1)
    · rw [if_pos p1, k2, decide_eq_true p1, Bool.true_and]
      by_cases p2 : G (18 + 2) ≤ inA G s 2 (G 29) ∧ inA G s 2 (G 29) ≤ G (21 + 2)
      · rw [if_pos p2, decide_eq_true p2, b01_t rfl, x_o_keepsQuotas_2]
        simp (disch := first | assumption | omega) only [x_o_keepsQuotas_0, x_o_keepsQuotas_1, x_o_keepsQuotas_3, x_o_keepsQuotas_4, x_o_keepsQuotas_7, x_o_keepsQuotas_8, x_o_keepsQuotas_9, x_o_keepsQuotas_12, x_o_keepsQuotas_13, x_o_keepsQuotas_14, x_o_keepsQuotas_15, x_o_keepsQuotas_18, x_o_keepsQuotas_19, x_o_keepsQuotas_20, x_o_keepsQuotas_21, x_o_keepsQuotas_24, x_o_keepsQuotas_25, x_o_keepsQuotas_26, x_o_keepsQuotas_29, x_o_keepsQuotas_30, x_o_keepsQuotas_31, x_o_keepsQuotas_34, x_o_keepsQuotas_35, x_o_keepsQuotas_36, x_o_keepsQuotas_39, x_o_keepsQuotas_40, x_o_keepsQuotas_41, x_o_keepsQuotas_44, x_o_keepsQuotas_47, x_o_keepsQuotas_48, Nat.reduceAdd, q_le, Nat.le_refl, if_true, z11, or_true, true_and]
      · rw [if_neg p2, decide_eq_false p2, b01_f (by decide)]
    · rw [if_neg p1, decide_eq_false p1, Bool.false_and, b01_f (by decide)]
  · rw [if_neg p0, decide_eq_false p0, Bool.false_and, b01_f (by decide)]
theorem lp_o_together {s : Nat} (hs : s < 256) (hb : isB B) (hC : CF B G iv) (hB : IB G) (hI : ∀ i, i < G 29 → jv (B + 11) i = lo (Tn G i)) : ∀ n i, i + n = G 29 → XT (d + 1) Yo_together 5 [.ref B, .int (nI s), .long (lo (gsi G s i)), mW, .int (nI i)] [] iv jv Q = Q (some (.long (lo (gsi G s (G 29))))) (mk iv jv) := by
  obtain ⟨c4, c5, c6, c7, c9, c11, c14⟩ := hC
  obtain ⟨s0, s1, s2, s3, s4, s5, s6, s7, s8, s9, s10, s11⟩ := sB hb
  have b1 := hB.1
  intro n
  induction n with
  | zero =>
    intro i hi
    obtain rfl : i = G 29 := by omega
    rw [x_o_together_5]
    simp (disch := first | assumption | omega) only [x_o_together_0, x_o_together_1, x_o_together_2, x_o_together_3, x_o_together_7, x_o_together_8, x_o_together_11, x_o_together_14, x_o_together_15, x_o_together_17, x_o_together_18, x_o_together_19, x_o_together_20, x_o_together_21, x_o_together_24, x_o_together_25, x_o_together_26, x_o_together_29, x_o_together_31, x_o_together_32, x_o_together_35, x_o_together_36, x_o_together_39, x_o_together_42, x_o_together_43, s0, true_and, c9, q_le, Nat.le_refl, if_true]
  | succ n ih =>
    intro i hi
    have h4 : ¬ G 29 ≤ i := by omega
    have hbit := bit_hasI s hs i (by omega)
    have hIi := hI i (by omega)
    have g1 := gsi_lt G s i
    have g2 := Tn_lt G i
    have h8 := ih (i + 1) (by omega)
    have p2 := fun (Q : Option Value → mH → Prop) => sp_e_plus (d := d) (iv := iv) (jv := jv) (Q := Q) (a := gsi G s i) (b := Tn G i) g1 g2
    rw [gsi_s] at h8
    rw [x_o_together_5]
    by_cases p : s.testBit i = true
    · rw [if_pos p] at h8
      simp (disch := first | assumption | omega) only [x_o_together_0, x_o_together_1, x_o_together_2, x_o_together_3, x_o_together_7, x_o_together_8, x_o_together_11, x_o_together_14, x_o_together_15, x_o_together_17, x_o_together_18, x_o_together_19, x_o_together_20, x_o_together_21, x_o_together_24, x_o_together_25, x_o_together_26, x_o_together_29, x_o_together_31, x_o_together_32, x_o_together_35, x_o_together_36, x_o_together_39, x_o_together_42, x_o_together_43, s0, s11, true_and, c9, q_le, h4, if_false, hbit, b01_eq1, eq_true p, if_true, q_in, q_tn, hIi, p2, XK_s, q_add]
      exact h8
    · rw [if_neg p] at h8
      simp (disch := first | assumption | omega) only [x_o_together_0, x_o_together_1, x_o_together_2, x_o_together_3, x_o_together_7, x_o_together_8, x_o_together_11, x_o_together_14, x_o_together_15, x_o_together_17, x_o_together_18, x_o_together_19, x_o_together_20, x_o_together_21, x_o_together_24, x_o_together_25, x_o_together_26, x_o_together_29, x_o_together_31, x_o_together_32, x_o_together_35, x_o_together_36, x_o_together_39, x_o_together_42, x_o_together_43, s0, s11, true_and, c9, q_le, h4, if_false, hbit, b01_eq1, eq_false p, q_add]
      exact h8
theorem sp_o_together {s : Nat} (hs : s < 256) (hb : isB B) (hC : CF B G iv) (hB : IB G) (hI : ∀ i, i < G 29 → jv (B + 11) i = lo (Tn G i)) : XM (d + 2) Yo_together [.ref B, .int (nI s)] iv jv Q = Q (some (.long (lo (gsi G s (G 29))))) (mk iv jv) := by
  simp (disch := first | assumption | omega) only [e_o_together, x_o_together_0, x_o_together_1, x_o_together_2, x_o_together_3, x_o_together_7, x_o_together_8, x_o_together_11, x_o_together_14, x_o_together_15, x_o_together_17, x_o_together_18, x_o_together_19, x_o_together_20, x_o_together_21, x_o_together_24, x_o_together_25, x_o_together_26, x_o_together_29, x_o_together_31, x_o_together_32, x_o_together_35, x_o_together_36, x_o_together_39, x_o_together_42, x_o_together_43]
  exact lp_o_together hs hb hC hB hI (G 29) 0 (by omega)
end BEST1
