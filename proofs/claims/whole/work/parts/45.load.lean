section LOADL
variable {d : Nat} {iv : mI} {jv : mJ} {Q : Option Value → mH → Prop} {G : Nat → Nat} {C : Nat → Int32} {n : Nat}
theorem itG_ne {G : Nat → Nat} {k a h s j : Nat} (h1 : j ≠ 29) (h2 : j ≠ 35) (h3 : ¬ (37 + 6 * G 29 ≤ j ∧ j < 37 + 6 * G 29 + 6)) : itG G k a h s j = G j := by
  unfold itG
  rw [if_neg h1, if_neg h2, if_neg (by omega), if_neg (by omega), if_neg (by omega), if_neg (by omega), if_neg (by omega), if_neg (by omega)]
theorem itG_29 (G : Nat → Nat) (k a h s : Nat) : itG G k a h s 29 = G 29 + 1 := if_pos rfl
theorem itG_35 (G : Nat → Nat) (k a h s : Nat) : itG G k a h s 35 = if G 34 = 1 then G 35 ||| 2 ^ G 29 else G 35 := by
  unfold itG; rw [if_neg (by decide), if_pos rfl]
theorem itG_at (G : Nat → Nat) (k a h s : Nat) : itG G k a h s (37 + 6 * G 29) = k ∧ itG G k a h s (37 + 6 * G 29 + 1) = a ∧ itG G k a h s (37 + 6 * G 29 + 2) = h ∧ itG G k a h s (37 + 6 * G 29 + 3) = s ∧ itG G k a h s (37 + 6 * G 29 + 4) = 10 ∧ itG G k a h s (37 + 6 * G 29 + 5) = 0 := by
  unfold itG
  refine ⟨?_, ?_, ?_, ?_, ?_, ?_⟩
  · rw [if_neg (by omega), if_neg (by omega), if_pos rfl]
  · rw [if_neg (by omega), if_neg (by omega), if_neg (by omega), if_pos rfl]
  · rw [if_neg (by omega), if_neg (by omega), if_neg (by omega), if_neg (by omega), if_pos rfl]
  · rw [if_neg (by omega), if_neg (by omega), if_neg (by omega), if_neg (by omega), if_neg (by omega), if_pos rfl]
  · rw [if_neg (by omega), if_neg (by omega), if_neg (by omega), if_neg (by omega), if_neg (by omega), if_neg (by omega), if_pos rfl]
  · rw [if_neg (by omega), if_neg (by omega), if_neg (by omega), if_neg (by omega), if_neg (by omega), if_neg (by omega), if_neg (by omega), if_pos rfl]
theorem IB_it {k a h s : Nat} (hB : IB G) (hk : k ≤ 5) (ha : a ≤ 2) (hh : h ≤ 8) (hs : s ≤ 3) (h29 : G 29 < 8) : IB (itG G k a h s) := by
  obtain ⟨b1, b2, b3, b4, b5, b6, b7, b8, b9, b10, b11, b12, b13⟩ := hB
  have e : ∀ j, j < 37 → j ≠ 29 → j ≠ 35 → itG G k a h s j = G j := fun j h1 h2 h3 => itG_ne h2 h3 (by omega)
  have e5 : ∀ j, 85 ≤ j → itG G k a h s j = G j := fun j h1 => itG_ne (by omega) (by omega) (by omega)
  refine ⟨?_, ?_, ?_, ?_, ?_, ?_, ?_, ?_, ?_, ?_, ?_, ?_, ?_⟩
  · rw [itG_29]; omega
  · rw [e 36 (by decide) (by decide) (by decide)]; exact b2
  · rw [itG_35]
    split
    · have h3 : 2 ^ G 29 < 2 ^ 8 := Nat.pow_lt_pow_right (by decide) h29
      exact Nat.or_lt_two_pow (n := 8) b3 h3
    · exact b3
  · intro i hi
    by_cases ei : i = G 29
    · subst ei
      obtain ⟨q0, q1, q2, q3, q4, q5⟩ := itG_at G k a h s
      rw [q0, q1, q2, q3, q4, q5]
      omega
    · rw [itG_ne (by omega) (by omega) (by omega), itG_ne (by omega) (by omega) (by omega), itG_ne (by omega) (by omega) (by omega), itG_ne (by omega) (by omega) (by omega), itG_ne (by omega) (by omega) (by omega), itG_ne (by omega) (by omega) (by omega)]
      exact b4 i hi
  · intro i hi
    rw [e5 _ (by omega), e5 _ (by omega)]
    exact b5 i hi
  · intro l hl; rw [e l (by omega) (by omega) (by omega)]; exact b6 l hl
  · intro l hl; rw [e _ (by omega) (by omega) (by omega), e _ (by omega) (by omega) (by omega)]; exact b7 l hl
  · intro l hl; rw [e _ (by omega) (by omega) (by omega)]; exact b8 l hl
  · rw [e 30 (by decide) (by decide) (by decide)]; exact b9
  · rw [e 31 (by decide) (by decide) (by decide)]; exact b10
  · rw [e 32 (by decide) (by decide) (by decide)]; exact b11
  · rw [e 33 (by decide) (by decide) (by decide)]; exact b12
  · rw [e 34 (by decide) (by decide) (by decide)]; exact b13
def isSb (x y z w : Int32) : Bool := decide (((0 ≤ x.toInt ∧ x.toInt ≤ 5) ∧ 0 ≤ y.toInt ∧ y.toInt ≤ 2) ∧ (0 ≤ z.toInt ∧ z.toInt ≤ 8) ∧ 1 ≤ w.toInt ∧ w.toInt ≤ 3)
theorem isSb_iff (x y z w : Int32) : isSb x y z w = true ↔ isS x y z w := by unfold isSb isS; exact decide_eq_true_iff
def ldQ (G : Nat → Nat) (C : Nat → Int32) (a : Nat) : Bool := decide (G 29 < 8) && isSb (C a) (C (a + 1)) (C (a + 2)) (C (a + 3))
def ldG (G : Nat → Nat) (C : Nat → Int32) (a : Nat) : Nat → Nat := itG G (C a).toInt.toNat (C (a + 1)).toInt.toNat (C (a + 2)).toInt.toNat (C (a + 3)).toInt.toNat
theorem nat_of {x : Int32} {m : Nat} (h : 0 ≤ x.toInt ∧ x.toInt ≤ (m : Int)) (hm : m < 2147483648) : x.toInt.toNat ≤ m ∧ x = nI x.toInt.toNat := by
  obtain ⟨k, hk, rfl⟩ := inR_of (x := x) (m := m) h hm
  rw [nI_toI (by omega)]
  exact ⟨hk, rfl⟩
theorem sp_m_loads {s a z : Nat} (hs : s < 4) (ha : a + 3 < z) (hz : z ≤ 40) (hC : ∀ i, i < z → iv 125 (40 * s + i) = C i) (hG : ∀ k, k < 101 → jv 119 k = lN (G k)) (hB : IB G) (h0 : ldQ G C a = false → Q (some (.int (nI 0))) (mk iv jv)) (hQ : ldQ G C a = true → ∀ jv', (∀ j, j < 101 → jv' 119 j = lN (ldG G C a j)) → (∀ q k, q ≠ 119 → jv' q k = jv q k) → Q (some (.int (nI 1))) (mk iv jv')) : XM (d + 3) Ym_loads [.ref 118, .int (nI s), .long (lN a)] iv jv Q := by
  have g29 := hG 29 (by decide)
  have b1 := hB.1
  have c0 := hC a (by omega)
  have c1 := hC (a + 1) (by omega)
  have c2 := hC (a + 2) (by omega)
  have c3 := hC (a + 3) (by omega)
  rw [← Nat.add_assoc] at c1 c2 c3
  by_cases p : G 29 = 8
  · have h0 := h0 (by unfold ldQ; simp [p])
    simp (disch := first | assumption | omega) only [e_m_loads, x_m_loads_0, x_m_loads_2, x_m_loads_3, x_m_loads_4, x_m_loads_5, x_m_loads_6, x_m_loads_7, x_m_loads_9, x_m_loads_10, x_m_loads_13, x_m_loads_15, x_m_loads_16, x_m_loads_19, x_m_loads_20, x_m_loads_23, x_m_loads_24, x_m_loads_27, x_m_loads_29, x_m_loads_30, x_m_loads_31, x_m_loads_32, x_m_loads_35, x_m_loads_37, x_m_loads_38, x_m_loads_39, x_m_loads_40, x_m_loads_41, x_m_loads_42, x_m_loads_45, x_m_loads_47, x_m_loads_48, x_m_loads_49, x_m_loads_50, x_m_loads_51, x_m_loads_52, x_m_loads_55, x_m_loads_57, x_m_loads_58, x_m_loads_59, x_m_loads_60, x_m_loads_61, x_m_loads_64, x_m_loads_67, x_m_loads_68, x_m_loads_69, x_m_loads_70, x_m_loads_71, x_m_loads_74, x_m_loads_76, x_m_loads_77, x_m_loads_78, x_m_loads_81, x_m_loads_83, x_m_loads_84, x_m_loads_85, x_m_loads_86, x_m_loads_87, x_m_loads_90, x_m_loads_92, x_m_loads_93, x_m_loads_94, x_m_loads_95, x_m_loads_96, x_m_loads_99, x_m_loads_101, x_m_loads_102, x_m_loads_103, x_m_loads_104, x_m_loads_107, x_m_loads_108, x_m_loads_109, q_l2i, q_mul, q_add, q_in, q_tn, true_and, g29, c_eq, q_leq, p, if_true]
    exact h0
  · by_cases p2 : isS (C a) (C (a + 1)) (C (a + 2)) (C (a + 3))
    · have p3 : ldQ G C a = true := by unfold ldQ; rw [(isSb_iff _ _ _ _).mpr p2]; simp; omega
      have hQ := hQ p3
      unfold isS at p2
      obtain ⟨⟨⟨a1, a2⟩, a3, a4⟩, ⟨a5, a6⟩, a7, a8⟩ := p2
      obtain ⟨k1, e1⟩ := nat_of (m := 5) ⟨a1, a2⟩ (by decide)
      obtain ⟨k2, e2⟩ := nat_of (m := 2) ⟨a3, a4⟩ (by decide)
      obtain ⟨k3, e3⟩ := nat_of (m := 8) ⟨a5, a6⟩ (by decide)
      obtain ⟨k4, e4⟩ := nat_of (m := 3) (x := C (a + 3)) ⟨by omega, a8⟩ (by decide)
      have k5 : 1 ≤ (C (a + 3)).toInt.toNat := by omega
      unfold ldG at hQ
      generalize (C a).toInt.toNat = v1 at *
      generalize (C (a + 1)).toInt.toNat = v2 at *
      generalize (C (a + 2)).toInt.toNat = v3 at *
      generalize (C (a + 3)).toInt.toNat = v4 at *
      rw [e1] at c0
      rw [e2] at c1
      rw [e3] at c2
      rw [e4] at c3
      simp (disch := first | assumption | omega) only [e_m_loads, x_m_loads_0, x_m_loads_2, x_m_loads_3, x_m_loads_4, x_m_loads_5, x_m_loads_6, x_m_loads_7, x_m_loads_9, x_m_loads_10, x_m_loads_13, x_m_loads_15, x_m_loads_16, x_m_loads_19, x_m_loads_20, x_m_loads_23, x_m_loads_24, x_m_loads_27, x_m_loads_29, x_m_loads_30, x_m_loads_31, x_m_loads_32, x_m_loads_35, x_m_loads_37, x_m_loads_38, x_m_loads_39, x_m_loads_40, x_m_loads_41, x_m_loads_42, x_m_loads_45, x_m_loads_47, x_m_loads_48, x_m_loads_49, x_m_loads_50, x_m_loads_51, x_m_loads_52, x_m_loads_55, x_m_loads_57, x_m_loads_58, x_m_loads_59, x_m_loads_60, x_m_loads_61, x_m_loads_64, x_m_loads_67, x_m_loads_68, x_m_loads_69, x_m_loads_70, x_m_loads_71, x_m_loads_74, x_m_loads_76, x_m_loads_77, x_m_loads_78, x_m_loads_81, x_m_loads_83, x_m_loads_84, x_m_loads_85, x_m_loads_86, x_m_loads_87, x_m_loads_90, x_m_loads_92, x_m_loads_93, x_m_loads_94, x_m_loads_95, x_m_loads_96, x_m_loads_99, x_m_loads_101, x_m_loads_102, x_m_loads_103, x_m_loads_104, x_m_loads_107, x_m_loads_108, x_m_loads_109, q_l2i, q_mul, q_add, q_in, q_tn, true_and, g29, c_eq, q_leq, p, if_false, c0, c1, c2, c3, q_i2l, sp_isSuch, XK_s, n10]
      refine sp_m_comes k1 k2 k3 k4 (by omega) hG hB (fun jv' hG' hF => ?_)
      simp only [XK_s, x_m_loads_0, x_m_loads_2, x_m_loads_3, x_m_loads_4, x_m_loads_5, x_m_loads_6, x_m_loads_7, x_m_loads_9, x_m_loads_10, x_m_loads_13, x_m_loads_15, x_m_loads_16, x_m_loads_19, x_m_loads_20, x_m_loads_23, x_m_loads_24, x_m_loads_27, x_m_loads_29, x_m_loads_30, x_m_loads_31, x_m_loads_32, x_m_loads_35, x_m_loads_37, x_m_loads_38, x_m_loads_39, x_m_loads_40, x_m_loads_41, x_m_loads_42, x_m_loads_45, x_m_loads_47, x_m_loads_48, x_m_loads_49, x_m_loads_50, x_m_loads_51, x_m_loads_52, x_m_loads_55, x_m_loads_57, x_m_loads_58, x_m_loads_59, x_m_loads_60, x_m_loads_61, x_m_loads_64, x_m_loads_67, x_m_loads_68, x_m_loads_69, x_m_loads_70, x_m_loads_71, x_m_loads_74, x_m_loads_76, x_m_loads_77, x_m_loads_78, x_m_loads_81, x_m_loads_83, x_m_loads_84, x_m_loads_85, x_m_loads_86, x_m_loads_87, x_m_loads_90, x_m_loads_92, x_m_loads_93, x_m_loads_94, x_m_loads_95, x_m_loads_96, x_m_loads_99, x_m_loads_101, x_m_loads_102, x_m_loads_103, x_m_loads_104, x_m_loads_107, x_m_loads_108, x_m_loads_109]
      exact hQ jv' hG' hF
    · have h0 := h0 (by
        unfold ldQ
        have : isSb (C a) (C (a + 1)) (C (a + 2)) (C (a + 3)) = false := by
          apply Bool.eq_false_iff.mpr
          intro h
          exact p2 ((isSb_iff _ _ _ _).mp h)
        rw [this]; simp)
      simp (disch := first | assumption | omega) only [e_m_loads, x_m_loads_0, x_m_loads_2, x_m_loads_3, x_m_loads_4, x_m_loads_5, x_m_loads_6, x_m_loads_7, x_m_loads_9, x_m_loads_10, x_m_loads_13, x_m_loads_15, x_m_loads_16, x_m_loads_19, x_m_loads_20, x_m_loads_23, x_m_loads_24, x_m_loads_27, x_m_loads_29, x_m_loads_30, x_m_loads_31, x_m_loads_32, x_m_loads_35, x_m_loads_37, x_m_loads_38, x_m_loads_39, x_m_loads_40, x_m_loads_41, x_m_loads_42, x_m_loads_45, x_m_loads_47, x_m_loads_48, x_m_loads_49, x_m_loads_50, x_m_loads_51, x_m_loads_52, x_m_loads_55, x_m_loads_57, x_m_loads_58, x_m_loads_59, x_m_loads_60, x_m_loads_61, x_m_loads_64, x_m_loads_67, x_m_loads_68, x_m_loads_69, x_m_loads_70, x_m_loads_71, x_m_loads_74, x_m_loads_76, x_m_loads_77, x_m_loads_78, x_m_loads_81, x_m_loads_83, x_m_loads_84, x_m_loads_85, x_m_loads_86, x_m_loads_87, x_m_loads_90, x_m_loads_92, x_m_loads_93, x_m_loads_94, x_m_loads_95, x_m_loads_96, x_m_loads_99, x_m_loads_101, x_m_loads_102, x_m_loads_103, x_m_loads_104, x_m_loads_107, x_m_loads_108, x_m_loads_109, q_l2i, q_mul, q_add, q_in, q_tn, true_and, g29, c_eq, q_leq, p, if_false, c0, c1, c2, c3, sp_isSuch_bad p2, XK_s, if_true]
      exact h0
def ldF (C : Nat → Int32) (z f : Nat) : Nat → Nat → (Nat → Nat) → Nat → Option Nat × (Nat → Nat)
  | 0, _, G, c => (some c, G)
  | n + 1, k, G, c => if f + 4 * k + 3 < z then (if ldQ G C (f + 4 * k) = true then ldF C z f n (k + 1) (ldG G C (f + 4 * k)) (c + 1) else ldF C z f n (k + 1) G c) else (none, G)
theorem ldF_s (C : Nat → Int32) (z f n k : Nat) (G : Nat → Nat) (c : Nat) : ldF C z f (n + 1) k G c = if f + 4 * k + 3 < z then (if ldQ G C (f + 4 * k) = true then ldF C z f n (k + 1) (ldG G C (f + 4 * k)) (c + 1) else ldF C z f n (k + 1) G c) else (none, G) := rfl
theorem ld_ok {a : Nat} (h : ldQ G C a = true) : G 29 < 8 ∧ isS (C a) (C (a + 1)) (C (a + 2)) (C (a + 3)) := by
  unfold ldQ at h
  rw [Bool.and_eq_true, decide_eq_true_eq] at h
  exact ⟨h.1, (isSb_iff _ _ _ _).mp h.2⟩
theorem IB_ld {a : Nat} (hB : IB G) (h : ldQ G C a = true) : IB (ldG G C a) := by
  obtain ⟨h1, p2⟩ := ld_ok h
  unfold isS at p2
  exact IB_it hB (by omega) (by omega) (by omega) (by omega) h1
theorem sp_isCellN {s v z : Nat} (hs : s < 4) (hZ : iv 124 s = nI z) (hz : z ≤ 40) (hv : v < 1000) : XM (d + 2) Ym_isCell [.ref 118, .int (nI s), .long (lN v)] iv jv Q = Q (some (.int (b01 (v < z)))) (mk iv jv) := by
  have h := sp_m_isCell (d := d) (iv := iv) (jv := jv) (Q := Q) (nI v) hs hZ hz
  rw [q_i2l (by omega)] at h
  rw [h, b01_congr (e := v < z)]
  rw [nI_toI (by omega)]; omega
def ldV (r : Option Nat) : Int32 := match r with | none => -12 | some c => nI c
theorem lp_m_load {s o f z N : Nat} (hs : s < 4) (hN : N ≤ 8) (hf : f ≤ 40) (hZ : iv 124 s = nI z) (hz : z ≤ 40) (hC : ∀ i, i < z → iv 125 (40 * s + i) = C i) : ∀ m k (G : Nat → Nat) c jv1 u7 u8, k + m = N → c ≤ k → (∀ k, k < 101 → jv1 119 k = lN (G k)) → IB G → (∀ q k, q ≠ 119 → jv1 q k = jv q k) → (∀ jv', (∀ j, j < 101 → jv' 119 j = lN ((ldF C z f m k G c).2 j)) → (∀ q k, q ≠ 119 → jv' q k = jv q k) → Q (some (.int (ldV (ldF C z f m k G c).1))) (mk iv jv')) → XT (d + 3) Ym_load 75 [.ref 118, .int (nI s), .int (nI o), .int (nI f), .int (nI N), .int (nI c), .int (nI k), u7, u8] [] iv jv1 Q := by
  intro m
  induction m with
  | zero =>
    intro k G c jv1 u7 u8 hk hc hG hB hF hQ
    obtain rfl : k = N := by omega
    rw [x_m_load_75]
    simp (disch := first | assumption | omega) only [x_m_load_0, x_m_load_1, x_m_load_4, x_m_load_7, x_m_load_8, x_m_load_9, x_m_load_10, x_m_load_11, x_m_load_14, x_m_load_17, x_m_load_19, x_m_load_20, x_m_load_21, x_m_load_24, x_m_load_27, x_m_load_30, x_m_load_32, x_m_load_33, x_m_load_34, x_m_load_37, x_m_load_38, x_m_load_39, x_m_load_40, x_m_load_43, x_m_load_44, x_m_load_47, x_m_load_48, x_m_load_49, x_m_load_50, x_m_load_53, x_m_load_55, x_m_load_56, x_m_load_57, x_m_load_60, x_m_load_61, x_m_load_62, x_m_load_63, x_m_load_66, x_m_load_68, x_m_load_69, x_m_load_70, x_m_load_72, x_m_load_73, x_m_load_77, x_m_load_79, x_m_load_82, x_m_load_83, x_m_load_84, x_m_load_87, x_m_load_89, x_m_load_90, x_m_load_91, x_m_load_92, x_m_load_94, x_m_load_95, x_m_load_96, x_m_load_98, x_m_load_101, x_m_load_104, x_m_load_105, x_m_load_106, x_m_load_108, x_m_load_111, x_m_load_112, x_m_load_115, x_m_load_118, x_m_load_120, x_m_load_121, x_m_load_123, x_m_load_124, x_m_load_125, x_m_load_127, x_m_load_130, x_m_load_131, x_m_load_133, x_m_load_136, x_m_load_139, x_m_load_141, q_le, Nat.le_refl, if_true]
    exact hQ jv1 hG hF
  | succ m ih =>
    intro k G c jv1 u7 u8 hk hc hG hB hF hQ
    have h4 : ¬ N ≤ k := by omega
    rw [ldF_s] at hQ
    rw [x_m_load_75]
    by_cases p : f + 4 * k + 3 < z
    · rw [if_pos p] at hQ
      have p1 : f + 4 * k < z := by omega
      simp (disch := first | assumption | omega) only [x_m_load_0, x_m_load_1, x_m_load_4, x_m_load_7, x_m_load_8, x_m_load_9, x_m_load_10, x_m_load_11, x_m_load_14, x_m_load_17, x_m_load_19, x_m_load_20, x_m_load_21, x_m_load_24, x_m_load_27, x_m_load_30, x_m_load_32, x_m_load_33, x_m_load_34, x_m_load_37, x_m_load_38, x_m_load_39, x_m_load_40, x_m_load_43, x_m_load_44, x_m_load_47, x_m_load_48, x_m_load_49, x_m_load_50, x_m_load_53, x_m_load_55, x_m_load_56, x_m_load_57, x_m_load_60, x_m_load_61, x_m_load_62, x_m_load_63, x_m_load_66, x_m_load_68, x_m_load_69, x_m_load_70, x_m_load_72, x_m_load_73, x_m_load_77, x_m_load_79, x_m_load_82, x_m_load_83, x_m_load_84, x_m_load_87, x_m_load_89, x_m_load_90, x_m_load_91, x_m_load_92, x_m_load_94, x_m_load_95, x_m_load_96, x_m_load_98, x_m_load_101, x_m_load_104, x_m_load_105, x_m_load_106, x_m_load_108, x_m_load_111, x_m_load_112, x_m_load_115, x_m_load_118, x_m_load_120, x_m_load_121, x_m_load_123, x_m_load_124, x_m_load_125, x_m_load_127, x_m_load_130, x_m_load_131, x_m_load_133, x_m_load_136, x_m_load_139, x_m_load_141, q_le, h4, if_false, q_i2l, q_lmul, q_ladd, sp_isCellN hs hZ hz, XK_s, b01_eq0, p, p1, not_true_eq_false]
      refine sp_m_loads hs p hz hC hG hB (fun e => ?_) (fun e jv' hG' hF' => ?_)
      · rw [if_neg (by rw [e]; decide)] at hQ
        simp (disch := first | assumption | omega) only [XK_s, x_m_load_0, x_m_load_1, x_m_load_4, x_m_load_7, x_m_load_8, x_m_load_9, x_m_load_10, x_m_load_11, x_m_load_14, x_m_load_17, x_m_load_19, x_m_load_20, x_m_load_21, x_m_load_24, x_m_load_27, x_m_load_30, x_m_load_32, x_m_load_33, x_m_load_34, x_m_load_37, x_m_load_38, x_m_load_39, x_m_load_40, x_m_load_43, x_m_load_44, x_m_load_47, x_m_load_48, x_m_load_49, x_m_load_50, x_m_load_53, x_m_load_55, x_m_load_56, x_m_load_57, x_m_load_60, x_m_load_61, x_m_load_62, x_m_load_63, x_m_load_66, x_m_load_68, x_m_load_69, x_m_load_70, x_m_load_72, x_m_load_73, x_m_load_77, x_m_load_79, x_m_load_82, x_m_load_83, x_m_load_84, x_m_load_87, x_m_load_89, x_m_load_90, x_m_load_91, x_m_load_92, x_m_load_94, x_m_load_95, x_m_load_96, x_m_load_98, x_m_load_101, x_m_load_104, x_m_load_105, x_m_load_106, x_m_load_108, x_m_load_111, x_m_load_112, x_m_load_115, x_m_load_118, x_m_load_120, x_m_load_121, x_m_load_123, x_m_load_124, x_m_load_125, x_m_load_127, x_m_load_130, x_m_load_131, x_m_load_133, x_m_load_136, x_m_load_139, x_m_load_141, q_add, Nat.add_zero]
        exact ih (k + 1) G c jv1 _ _ (by omega) (by omega) hG hB hF hQ
      · rw [if_pos e] at hQ
        simp (disch := first | assumption | omega) only [XK_s, x_m_load_0, x_m_load_1, x_m_load_4, x_m_load_7, x_m_load_8, x_m_load_9, x_m_load_10, x_m_load_11, x_m_load_14, x_m_load_17, x_m_load_19, x_m_load_20, x_m_load_21, x_m_load_24, x_m_load_27, x_m_load_30, x_m_load_32, x_m_load_33, x_m_load_34, x_m_load_37, x_m_load_38, x_m_load_39, x_m_load_40, x_m_load_43, x_m_load_44, x_m_load_47, x_m_load_48, x_m_load_49, x_m_load_50, x_m_load_53, x_m_load_55, x_m_load_56, x_m_load_57, x_m_load_60, x_m_load_61, x_m_load_62, x_m_load_63, x_m_load_66, x_m_load_68, x_m_load_69, x_m_load_70, x_m_load_72, x_m_load_73, x_m_load_77, x_m_load_79, x_m_load_82, x_m_load_83, x_m_load_84, x_m_load_87, x_m_load_89, x_m_load_90, x_m_load_91, x_m_load_92, x_m_load_94, x_m_load_95, x_m_load_96, x_m_load_98, x_m_load_101, x_m_load_104, x_m_load_105, x_m_load_106, x_m_load_108, x_m_load_111, x_m_load_112, x_m_load_115, x_m_load_118, x_m_load_120, x_m_load_121, x_m_load_123, x_m_load_124, x_m_load_125, x_m_load_127, x_m_load_130, x_m_load_131, x_m_load_133, x_m_load_136, x_m_load_139, x_m_load_141, q_add]
        exact ih (k + 1) _ (c + 1) jv' _ _ (by omega) (by omega) hG' (IB_ld hB e) (fun q k hq => (hF' q k hq).trans (hF q k hq)) hQ
    · rw [if_neg p] at hQ
      have hQ := hQ jv1 hG hF
      by_cases p1 : f + 4 * k < z
      · simp (disch := first | assumption | omega) only [x_m_load_0, x_m_load_1, x_m_load_4, x_m_load_7, x_m_load_8, x_m_load_9, x_m_load_10, x_m_load_11, x_m_load_14, x_m_load_17, x_m_load_19, x_m_load_20, x_m_load_21, x_m_load_24, x_m_load_27, x_m_load_30, x_m_load_32, x_m_load_33, x_m_load_34, x_m_load_37, x_m_load_38, x_m_load_39, x_m_load_40, x_m_load_43, x_m_load_44, x_m_load_47, x_m_load_48, x_m_load_49, x_m_load_50, x_m_load_53, x_m_load_55, x_m_load_56, x_m_load_57, x_m_load_60, x_m_load_61, x_m_load_62, x_m_load_63, x_m_load_66, x_m_load_68, x_m_load_69, x_m_load_70, x_m_load_72, x_m_load_73, x_m_load_77, x_m_load_79, x_m_load_82, x_m_load_83, x_m_load_84, x_m_load_87, x_m_load_89, x_m_load_90, x_m_load_91, x_m_load_92, x_m_load_94, x_m_load_95, x_m_load_96, x_m_load_98, x_m_load_101, x_m_load_104, x_m_load_105, x_m_load_106, x_m_load_108, x_m_load_111, x_m_load_112, x_m_load_115, x_m_load_118, x_m_load_120, x_m_load_121, x_m_load_123, x_m_load_124, x_m_load_125, x_m_load_127, x_m_load_130, x_m_load_131, x_m_load_133, x_m_load_136, x_m_load_139, x_m_load_141, q_le, h4, if_false, if_true, q_i2l, q_lmul, q_ladd, sp_isCellN hs hZ hz, XK_s, b01_eq0, p, p1, not_true_eq_false, not_false_eq_true]
        exact hQ
      · simp (disch := first | assumption | omega) only [x_m_load_0, x_m_load_1, x_m_load_4, x_m_load_7, x_m_load_8, x_m_load_9, x_m_load_10, x_m_load_11, x_m_load_14, x_m_load_17, x_m_load_19, x_m_load_20, x_m_load_21, x_m_load_24, x_m_load_27, x_m_load_30, x_m_load_32, x_m_load_33, x_m_load_34, x_m_load_37, x_m_load_38, x_m_load_39, x_m_load_40, x_m_load_43, x_m_load_44, x_m_load_47, x_m_load_48, x_m_load_49, x_m_load_50, x_m_load_53, x_m_load_55, x_m_load_56, x_m_load_57, x_m_load_60, x_m_load_61, x_m_load_62, x_m_load_63, x_m_load_66, x_m_load_68, x_m_load_69, x_m_load_70, x_m_load_72, x_m_load_73, x_m_load_77, x_m_load_79, x_m_load_82, x_m_load_83, x_m_load_84, x_m_load_87, x_m_load_89, x_m_load_90, x_m_load_91, x_m_load_92, x_m_load_94, x_m_load_95, x_m_load_96, x_m_load_98, x_m_load_101, x_m_load_104, x_m_load_105, x_m_load_106, x_m_load_108, x_m_load_111, x_m_load_112, x_m_load_115, x_m_load_118, x_m_load_120, x_m_load_121, x_m_load_123, x_m_load_124, x_m_load_125, x_m_load_127, x_m_load_130, x_m_load_131, x_m_load_133, x_m_load_136, x_m_load_139, x_m_load_141, q_le, h4, if_false, if_true, q_i2l, q_lmul, q_ladd, sp_isCellN hs hZ hz, XK_s, b01_eq0, p1, not_true_eq_false, not_false_eq_true]
        exact hQ
def isL (x o n : Int32) : Prop := isSh x ∧ i01 o ∧ 0 ≤ n.toInt ∧ n.toInt ≤ 8
theorem sp_m_load_bad {x o f n : Int32} (h : ¬ isL x o n) : XM (d + 4) Ym_load [.ref 118, .int x, .int o, .int f, .int n] iv jv Q = Q (some (.int (-2))) (mk iv jv) := by
  unfold isL isSh i01 at h
  by_cases p1 : ((0 : Nat) : Int) ≤ x.toInt ∧ x.toInt ≤ ((3 : Nat) : Int) <;> by_cases p2 : ((0 : Nat) : Int) ≤ o.toInt ∧ o.toInt ≤ ((1 : Nat) : Int) <;> by_cases p3 : ((0 : Nat) : Int) ≤ n.toInt ∧ n.toInt ≤ ((8 : Nat) : Int) <;>
  first
  | (exfalso; omega)
  | (simp (disch := first | assumption | omega) only [e_m_load, x_m_load_0, x_m_load_1, x_m_load_4, x_m_load_7, x_m_load_8, x_m_load_9, x_m_load_10, x_m_load_11, x_m_load_14, x_m_load_17, x_m_load_19, x_m_load_20, x_m_load_21, x_m_load_24, x_m_load_27, x_m_load_30, x_m_load_32, x_m_load_33, x_m_load_34, x_m_load_37, x_m_load_38, x_m_load_39, x_m_load_40, x_m_load_43, x_m_load_44, x_m_load_47, x_m_load_48, x_m_load_49, x_m_load_50, x_m_load_53, x_m_load_55, x_m_load_56, x_m_load_57, x_m_load_60, x_m_load_61, x_m_load_62, x_m_load_63, x_m_load_66, x_m_load_68, x_m_load_69, x_m_load_70, x_m_load_72, x_m_load_73, x_m_load_77, x_m_load_79, x_m_load_82, x_m_load_83, x_m_load_84, x_m_load_87, x_m_load_89, x_m_load_90, x_m_load_91, x_m_load_92, x_m_load_94, x_m_load_95, x_m_load_96, x_m_load_98, x_m_load_101, x_m_load_104, x_m_load_105, x_m_load_106, x_m_load_108, x_m_load_111, x_m_load_112, x_m_load_115, x_m_load_118, x_m_load_120, x_m_load_121, x_m_load_123, x_m_load_124, x_m_load_125, x_m_load_127, x_m_load_130, x_m_load_131, x_m_load_133, x_m_load_136, x_m_load_139, x_m_load_141, sp_isInI, sp_m_isSheet, XK_s, b01_eq0, p1, p2, p3, not_false_eq_true, not_true_eq_false, if_true, if_false, and_self])
/-- the whole of load: an int, and what the test is then -/
def ldR (G : Nat → Nat) (C : Nat → Int32) (z N : Nat) (f : Int32) : Option Nat × (Nat → Nat) := if N = 0 then (some 0, G) else if 0 ≤ f.toInt ∧ f.toInt < (z : Int) then ldF C z f.toInt.toNat N 0 G 0 else (none, G)
theorem sp_m_load {s o z N : Nat} {S f : Int32} (hs : s < 4) (ho : o < 2) (hN : N ≤ 8) (hS : iv 123 s = S) (hZ : iv 124 s = nI z) (hz : z ≤ 40) (hC : ∀ i, i < z → iv 125 (40 * s + i) = C i) (hG : ∀ k, k < 101 → jv 119 k = lN (G k)) (hB : IB G) (h1 : S = -1 → Q (some (.int (-11))) (mk iv jv)) (h2 : S ≠ -1 → S ≠ nI o → Q (some (.int (-13))) (mk iv jv)) (hQ : S = nI o → ∀ jv', (∀ j, j < 101 → jv' 119 j = lN ((ldR G C z N f).2 j)) → (∀ q k, q ≠ 119 → jv' q k = jv q k) → Q (some (.int (ldV (ldR G C z N f).1))) (mk iv jv')) : XM (d + 4) Ym_load [.ref 118, .int (nI s), .int (nI o), .int f, .int (nI N)] iv jv Q := by
  have hs3 : s ≤ 3 := by omega
  have ho1 : o ≤ 1 := by omega
  by_cases p1 : S = -1
  · have h1 := h1 p1
    simp (disch := first | assumption | omega) only [e_m_load, x_m_load_0, x_m_load_1, x_m_load_4, x_m_load_7, x_m_load_8, x_m_load_9, x_m_load_10, x_m_load_11, x_m_load_14, x_m_load_17, x_m_load_19, x_m_load_20, x_m_load_21, x_m_load_24, x_m_load_27, x_m_load_30, x_m_load_32, x_m_load_33, x_m_load_34, x_m_load_37, x_m_load_38, x_m_load_39, x_m_load_40, x_m_load_43, x_m_load_44, x_m_load_47, x_m_load_48, x_m_load_49, x_m_load_50, x_m_load_53, x_m_load_55, x_m_load_56, x_m_load_57, x_m_load_60, x_m_load_61, x_m_load_62, x_m_load_63, x_m_load_66, x_m_load_68, x_m_load_69, x_m_load_70, x_m_load_72, x_m_load_73, x_m_load_77, x_m_load_79, x_m_load_82, x_m_load_83, x_m_load_84, x_m_load_87, x_m_load_89, x_m_load_90, x_m_load_91, x_m_load_92, x_m_load_94, x_m_load_95, x_m_load_96, x_m_load_98, x_m_load_101, x_m_load_104, x_m_load_105, x_m_load_106, x_m_load_108, x_m_load_111, x_m_load_112, x_m_load_115, x_m_load_118, x_m_load_120, x_m_load_121, x_m_load_123, x_m_load_124, x_m_load_125, x_m_load_127, x_m_load_130, x_m_load_131, x_m_load_133, x_m_load_136, x_m_load_139, x_m_load_141, sp_isSheetN, q_i2l, sp_isInN, XK_s, b01_eq0, hs3, ho1, hN, Nat.zero_le, and_self, not_true_eq_false, if_false, if_true, q_in, q_tn, true_and, hS, eq_true p1]
    exact h1
  · by_cases p2 : S = nI o
    · have hQ := hQ p2
      have em : ((-1 : Int32) = nI o) = False := nm0 (by omega)
      simp (disch := first | assumption | omega) only [e_m_load, x_m_load_0, x_m_load_1, x_m_load_4, x_m_load_7, x_m_load_8, x_m_load_9, x_m_load_10, x_m_load_11, x_m_load_14, x_m_load_17, x_m_load_19, x_m_load_20, x_m_load_21, x_m_load_24, x_m_load_27, x_m_load_30, x_m_load_32, x_m_load_33, x_m_load_34, x_m_load_37, x_m_load_38, x_m_load_39, x_m_load_40, x_m_load_43, x_m_load_44, x_m_load_47, x_m_load_48, x_m_load_49, x_m_load_50, x_m_load_53, x_m_load_55, x_m_load_56, x_m_load_57, x_m_load_60, x_m_load_61, x_m_load_62, x_m_load_63, x_m_load_66, x_m_load_68, x_m_load_69, x_m_load_70, x_m_load_72, x_m_load_73, x_m_load_77, x_m_load_79, x_m_load_82, x_m_load_83, x_m_load_84, x_m_load_87, x_m_load_89, x_m_load_90, x_m_load_91, x_m_load_92, x_m_load_94, x_m_load_95, x_m_load_96, x_m_load_98, x_m_load_101, x_m_load_104, x_m_load_105, x_m_load_106, x_m_load_108, x_m_load_111, x_m_load_112, x_m_load_115, x_m_load_118, x_m_load_120, x_m_load_121, x_m_load_123, x_m_load_124, x_m_load_125, x_m_load_127, x_m_load_130, x_m_load_131, x_m_load_133, x_m_load_136, x_m_load_139, x_m_load_141, sp_isSheetN, q_i2l, sp_isInN, XK_s, b01_eq0, hs3, ho1, hN, Nat.zero_le, and_self, not_true_eq_false, if_false, if_true, q_in, q_tn, true_and, hS, eq_false p1, eq_true p2]
      unfold ldR at hQ
      by_cases p3 : N = 0
      · subst p3
        rw [if_pos rfl] at hQ
        rw [x_m_load_75]
        simp (disch := first | assumption | omega) only [x_m_load_0, x_m_load_1, x_m_load_4, x_m_load_7, x_m_load_8, x_m_load_9, x_m_load_10, x_m_load_11, x_m_load_14, x_m_load_17, x_m_load_19, x_m_load_20, x_m_load_21, x_m_load_24, x_m_load_27, x_m_load_30, x_m_load_32, x_m_load_33, x_m_load_34, x_m_load_37, x_m_load_38, x_m_load_39, x_m_load_40, x_m_load_43, x_m_load_44, x_m_load_47, x_m_load_48, x_m_load_49, x_m_load_50, x_m_load_53, x_m_load_55, x_m_load_56, x_m_load_57, x_m_load_60, x_m_load_61, x_m_load_62, x_m_load_63, x_m_load_66, x_m_load_68, x_m_load_69, x_m_load_70, x_m_load_72, x_m_load_73, x_m_load_77, x_m_load_79, x_m_load_82, x_m_load_83, x_m_load_84, x_m_load_87, x_m_load_89, x_m_load_90, x_m_load_91, x_m_load_92, x_m_load_94, x_m_load_95, x_m_load_96, x_m_load_98, x_m_load_101, x_m_load_104, x_m_load_105, x_m_load_106, x_m_load_108, x_m_load_111, x_m_load_112, x_m_load_115, x_m_load_118, x_m_load_120, x_m_load_121, x_m_load_123, x_m_load_124, x_m_load_125, x_m_load_127, x_m_load_130, x_m_load_131, x_m_load_133, x_m_load_136, x_m_load_139, x_m_load_141, q_le, Nat.le_refl, if_true]
        exact hQ jv hG (fun _ _ _ => rfl)
      · rw [if_neg p3] at hQ
        by_cases p4 : 0 ≤ f.toInt ∧ f.toInt < (z : Int)
        · rw [if_pos p4] at hQ
          obtain ⟨f', hf', rfl⟩ := inR_of (x := f) (m := 39) ⟨p4.1, by omega⟩ (by decide)
          rw [nI_toI (by omega)] at hQ
          exact lp_m_load (jv := jv) hs hN (by omega) hZ hz hC N 0 G 0 jv _ _ (by omega) (by omega) hG hB (fun _ _ _ => rfl) hQ
        · rw [if_neg p4] at hQ
          have h4 : ¬ N ≤ 0 := by omega
          have e0 : f.toInt64 + lN 4 * lN 0 = f.toInt64 := by
            rw [q_lmul]
            show f.toInt64 + 0 = _
            exact Int64.add_zero _
          have hcl := fun Q : Option Value → mH → Prop => sp_m_isCell (d := d + 1) (iv := iv) (jv := jv) (Q := Q) f hs hZ hz
          rw [x_m_load_75]
          simp (disch := first | assumption | omega) only [x_m_load_0, x_m_load_1, x_m_load_4, x_m_load_7, x_m_load_8, x_m_load_9, x_m_load_10, x_m_load_11, x_m_load_14, x_m_load_17, x_m_load_19, x_m_load_20, x_m_load_21, x_m_load_24, x_m_load_27, x_m_load_30, x_m_load_32, x_m_load_33, x_m_load_34, x_m_load_37, x_m_load_38, x_m_load_39, x_m_load_40, x_m_load_43, x_m_load_44, x_m_load_47, x_m_load_48, x_m_load_49, x_m_load_50, x_m_load_53, x_m_load_55, x_m_load_56, x_m_load_57, x_m_load_60, x_m_load_61, x_m_load_62, x_m_load_63, x_m_load_66, x_m_load_68, x_m_load_69, x_m_load_70, x_m_load_72, x_m_load_73, x_m_load_77, x_m_load_79, x_m_load_82, x_m_load_83, x_m_load_84, x_m_load_87, x_m_load_89, x_m_load_90, x_m_load_91, x_m_load_92, x_m_load_94, x_m_load_95, x_m_load_96, x_m_load_98, x_m_load_101, x_m_load_104, x_m_load_105, x_m_load_106, x_m_load_108, x_m_load_111, x_m_load_112, x_m_load_115, x_m_load_118, x_m_load_120, x_m_load_121, x_m_load_123, x_m_load_124, x_m_load_125, x_m_load_127, x_m_load_130, x_m_load_131, x_m_load_133, x_m_load_136, x_m_load_139, x_m_load_141, q_le, h4, if_false, q_i2l, e0, hcl, XK_s, b01_eq0, eq_false p4, not_false_eq_true, if_true]
          exact hQ jv hG (fun _ _ _ => rfl)
    · have h2 := h2 p1 p2
      simp (disch := first | assumption | omega) only [e_m_load, x_m_load_0, x_m_load_1, x_m_load_4, x_m_load_7, x_m_load_8, x_m_load_9, x_m_load_10, x_m_load_11, x_m_load_14, x_m_load_17, x_m_load_19, x_m_load_20, x_m_load_21, x_m_load_24, x_m_load_27, x_m_load_30, x_m_load_32, x_m_load_33, x_m_load_34, x_m_load_37, x_m_load_38, x_m_load_39, x_m_load_40, x_m_load_43, x_m_load_44, x_m_load_47, x_m_load_48, x_m_load_49, x_m_load_50, x_m_load_53, x_m_load_55, x_m_load_56, x_m_load_57, x_m_load_60, x_m_load_61, x_m_load_62, x_m_load_63, x_m_load_66, x_m_load_68, x_m_load_69, x_m_load_70, x_m_load_72, x_m_load_73, x_m_load_77, x_m_load_79, x_m_load_82, x_m_load_83, x_m_load_84, x_m_load_87, x_m_load_89, x_m_load_90, x_m_load_91, x_m_load_92, x_m_load_94, x_m_load_95, x_m_load_96, x_m_load_98, x_m_load_101, x_m_load_104, x_m_load_105, x_m_load_106, x_m_load_108, x_m_load_111, x_m_load_112, x_m_load_115, x_m_load_118, x_m_load_120, x_m_load_121, x_m_load_123, x_m_load_124, x_m_load_125, x_m_load_127, x_m_load_130, x_m_load_131, x_m_load_133, x_m_load_136, x_m_load_139, x_m_load_141, sp_isSheetN, q_i2l, sp_isInN, XK_s, b01_eq0, hs3, ho1, hN, Nat.zero_le, and_self, not_true_eq_false, if_false, if_true, q_in, q_tn, true_and, hS, eq_false p1, eq_false p2]
      exact h2
end LOADL
