section CHANCE
variable {d : Nat} {iv : mI} {jv : mJ} {Q : Option Value → mH → Prop} {G : Nat → Nat} {f : Nat → Nat}
def FW (iv : mI) (jv : mJ) (iv' : mI) (jv' : mJ) : Prop := (∀ q k, ¬ (q = 118 ∧ (k = 5 ∨ k = 8 ∨ 12 ≤ k)) → iv' q k = iv q k) ∧ (∀ q k, q ≠ 118 → q ≠ 119 → q ≠ 121 → q ≠ 122 → jv' q k = jv q k)
theorem FW_r (iv : mI) (jv : mJ) : FW iv jv iv jv := ⟨fun _ _ _ => rfl, fun _ _ _ _ _ _ => rfl⟩
theorem FW_t {iv jv iv1 jv1 iv2 jv2} (h : FW iv jv iv1 jv1) (h' : FW iv1 jv1 iv2 jv2) : FW iv jv iv2 jv2 :=
  ⟨fun q k e => (h'.1 q k e).trans (h.1 q k e), fun q k e1 e2 e3 e4 => (h'.2 q k e1 e2 e3 e4).trans (h.2 q k e1 e2 e3 e4)⟩
theorem FW_FL {iv jv iv1 jv1} (h : FL iv jv iv1 jv1) : FW iv jv iv1 jv1 := ⟨h.1, fun q k e1 e2 _ e4 => h.2 q k e1 e2 e4⟩
theorem FW_FR {iv jv iv1 jv1} (h : FR iv jv iv1 jv1) : FW iv jv iv1 jv1 := ⟨h.1, fun q k e1 _ _ e4 => h.2 q k e1 e4⟩
theorem FW_j {iv : mI} {jv jv1 : mJ} (h : ∀ q k, q ≠ 119 → q ≠ 121 → jv1 q k = jv q k) : FW iv jv iv jv1 := ⟨fun _ _ _ => rfl, fun q k _ e2 e3 _ => h q k e2 e3⟩
theorem FW_8 (iv : mI) (jv : mJ) (x : Int32) : FW iv jv (upi iv 118 8 x) jv := ⟨fun q k e => by unfold upi; rw [if_neg (fun z => e ⟨z.1, Or.inr (Or.inl z.2)⟩)], fun _ _ _ _ _ _ => rfl⟩
def drN (G : Nat → Nat) (l : Nat) (z : Int32) : Nat × (Nat → Nat) := drF l 9 G z 0
theorem sp_draws {l : Nat} {z : Int32} (hl : l < 9) (hG : ∀ k, k < 101 → jv 119 k = lN (G k)) (hB : IB G) (hD : DS G) (hn : nz (wt G 0)) (hgv : ∀ i, i < 8 → G (42 + 6 * i) + 9 ≤ 1000) (hQ : ∀ iv' jv', FW iv jv iv' jv' → (∀ k, k < 101 → jv' 119 k = lN (G k)) → iv' 118 8 = nI (mdN (drN G l z).2) → Q (some (.int (nI (drN G l z).1))) (mk iv' jv')) : XM (d + 10) Ym_draws [.ref 118, .int z, .int (nI l)] iv jv Q := by
  obtain ⟨s1, s2, s3, s4⟩ := copy_fin
  have hc1 := fun Q : Option Value → mH → Prop => sp_m_copies (d := d + 8) (iv := iv) (jv := jv) (Q := Q) (a := 119) (b := 121) (by decide) ⟨s1, s2⟩ ⟨s3, s4⟩
  have hG1 : ∀ k, k < 101 → cpG jv 119 121 101 119 k = lN (G k) := fun k hk => by rw [cpG_ne (by decide)]; exact hG k hk
  simp (disch := first | assumption | omega) only [e_m_draws, x_m_draws_0, x_m_draws_1, x_m_draws_4, x_m_draws_5, x_m_draws_8, x_m_draws_11, x_m_draws_12, x_m_draws_13, x_m_draws_14, x_m_draws_16, x_m_draws_17, x_m_draws_21, x_m_draws_24, x_m_draws_26, x_m_draws_29, x_m_draws_32, x_m_draws_33, x_m_draws_36, x_m_draws_39, x_m_draws_40, x_m_draws_43, x_m_draws_46, x_m_draws_47, x_m_draws_49, x_m_draws_51, x_m_draws_54, x_m_draws_55, x_m_draws_58, x_m_draws_59, x_m_draws_61, x_m_draws_63, x_m_draws_66, x_m_draws_67, x_m_draws_69, x_m_draws_70, x_m_draws_73, x_m_draws_74, x_m_draws_75, x_m_draws_76, x_m_draws_78, x_m_draws_79, x_m_draws_81, x_m_draws_82, x_m_draws_84, x_m_draws_85, x_m_draws_86, x_m_draws_88, x_m_draws_89, x_m_draws_92, x_m_draws_95, x_m_draws_96, x_m_draws_99, x_m_draws_100, x_m_draws_103, x_m_draws_106, x_m_draws_109, x_m_draws_110, x_m_draws_111, x_m_draws_114, x_m_draws_117, x_m_draws_118, x_m_draws_121, x_m_draws_122, x_m_draws_125, x_m_draws_128, x_m_draws_130, hc1, XK_n]
  refine lp_m_draws (iv := iv) (jv := cpG jv 119 121 101) hl 9 G z 0 _ _ _ hG1 hB hD hn (by omega) (by omega) hgv (FL_r _ _) (fun iv' jv' z' u6 hF hG2 hB2 hn2 => ?_)
  have hc2 := fun (i2 : mI) (j2 : mJ) (Q : Option Value → mH → Prop) => sp_m_copies (d := d + 8) (iv := i2) (jv := j2) (Q := Q) (a := 121) (b := 119) (by decide) ⟨s3, s4⟩ ⟨s1, s2⟩
  simp (disch := first | assumption | omega) only [x_m_draws_0, x_m_draws_1, x_m_draws_4, x_m_draws_5, x_m_draws_8, x_m_draws_11, x_m_draws_12, x_m_draws_13, x_m_draws_14, x_m_draws_16, x_m_draws_17, x_m_draws_21, x_m_draws_24, x_m_draws_26, x_m_draws_29, x_m_draws_32, x_m_draws_33, x_m_draws_36, x_m_draws_39, x_m_draws_40, x_m_draws_43, x_m_draws_46, x_m_draws_47, x_m_draws_49, x_m_draws_51, x_m_draws_54, x_m_draws_55, x_m_draws_58, x_m_draws_59, x_m_draws_61, x_m_draws_63, x_m_draws_66, x_m_draws_67, x_m_draws_69, x_m_draws_70, x_m_draws_73, x_m_draws_74, x_m_draws_75, x_m_draws_76, x_m_draws_78, x_m_draws_79, x_m_draws_81, x_m_draws_82, x_m_draws_84, x_m_draws_85, x_m_draws_86, x_m_draws_88, x_m_draws_89, x_m_draws_92, x_m_draws_95, x_m_draws_96, x_m_draws_99, x_m_draws_100, x_m_draws_103, x_m_draws_106, x_m_draws_109, x_m_draws_110, x_m_draws_111, x_m_draws_114, x_m_draws_117, x_m_draws_118, x_m_draws_121, x_m_draws_122, x_m_draws_125, x_m_draws_128, x_m_draws_130, sp_m_mode hG2 hB2 hn2, XK_s, hc2, XK_n]
  refine hQ _ _ ?_ (fun k hk => ?_) (upi_at _ _ _ _)
  · refine FW_t (FW_t (FW_j (fun q k _ e => cpG_ne e)) (FW_FL hF)) (FW_t (FW_FR (FR_weighs iv' jv' _)) (FW_t (FW_8 _ _ _) (FW_j (fun q k e _ => cpG_ne e))))
  · rw [cpG_at hk, stW_ne (by decide), hF.2 121 k (by decide) (by decide) (by decide), cpG_at hk]
    exact hG k hk
def isLv (x : Int32) : Prop := 0 ≤ x.toInt ∧ x.toInt ≤ (8 : Nat)
def vDrawn (G : Nat → Nat) (z : Int32) (l w : Nat) : Int32 := if G 34 = 1 then (if w = 0 then nI (drN G l z).1 else nI (mdN (drN G l z).2)) else -3
theorem sp_m_drawn_bad {z x y : Int32} (h : ¬ (isLv x ∧ i01 y)) : XM (d + 12) Ym_drawn [.ref 118, .int z, .int x, .int y] iv jv Q = Q (some (.int (-2))) (mk iv jv) := by
  unfold isLv i01 at h
  by_cases p1 : 0 ≤ x.toInt ∧ x.toInt ≤ ((8 : Nat) : Int) <;> by_cases p2 : ((0 : Nat) : Int) ≤ y.toInt ∧ y.toInt ≤ ((1 : Nat) : Int) <;>
  first
  | (exfalso; omega)
  | (simp (disch := first | assumption | omega) only [e_m_drawn, x_m_drawn_0, x_m_drawn_1, x_m_drawn_4, x_m_drawn_7, x_m_drawn_8, x_m_drawn_9, x_m_drawn_10, x_m_drawn_11, x_m_drawn_14, x_m_drawn_17, x_m_drawn_19, x_m_drawn_20, x_m_drawn_21, x_m_drawn_24, x_m_drawn_27, x_m_drawn_29, x_m_drawn_30, x_m_drawn_31, x_m_drawn_32, x_m_drawn_33, x_m_drawn_36, x_m_drawn_38, x_m_drawn_39, x_m_drawn_42, x_m_drawn_44, x_m_drawn_47, x_m_drawn_48, x_m_drawn_51, sp_isInI, sp_m_isLevel, XK_s, b01_eq0, p1, p2, not_false_eq_true, not_true_eq_false, if_true, if_false, and_self])
theorem sp_m_drawn {l w : Nat} {z : Int32} (hl : l < 9) (hw : w < 2) (hG : ∀ k, k < 101 → jv 119 k = lN (G k)) (hB : IB G) (hD : DS G) (hn : nz (wt G 0)) (hgv : ∀ i, i < 8 → G (42 + 6 * i) + 9 ≤ 1000) (hQ : ∀ iv' jv', FW iv jv iv' jv' → (∀ k, k < 101 → jv' 119 k = lN (G k)) → Q (some (.int (vDrawn G z l w))) (mk iv' jv')) : XM (d + 11) Ym_drawn [.ref 118, .int z, .int (nI l), .int (nI w)] iv jv Q := by
  have g34 := hG 34 (by decide)
  have b13 : G 34 ≤ 1 := hB.2.2.2.2.2.2.2.2.2.2.2.2
  have hl8 : l ≤ 8 := by omega
  have hw1 : w ≤ 1 := by omega
  unfold vDrawn at hQ
  simp (disch := first | assumption | omega) only [e_m_drawn, x_m_drawn_0, x_m_drawn_1, x_m_drawn_4, x_m_drawn_7, x_m_drawn_8, x_m_drawn_9, x_m_drawn_10, x_m_drawn_11, x_m_drawn_14, x_m_drawn_17, x_m_drawn_19, x_m_drawn_20, x_m_drawn_21, x_m_drawn_24, x_m_drawn_27, x_m_drawn_29, x_m_drawn_30, x_m_drawn_31, x_m_drawn_32, x_m_drawn_33, x_m_drawn_36, x_m_drawn_38, x_m_drawn_39, x_m_drawn_42, x_m_drawn_44, x_m_drawn_47, x_m_drawn_48, x_m_drawn_51, sp_isLevelN, q_i2l, sp_isInN, sp_m_isOn g34 b13, XK_s, b01_eq0, hl8, hw1, Nat.zero_le, true_and, not_true_eq_false, if_false]
  by_cases h : G 34 = 1
  · simp only [h, not_true_eq_false, if_false, if_true] at hQ ⊢
    refine sp_draws hl hG hB hD hn hgv (fun iv' jv' hF hG2 h8 => ?_)
    have h1 := hQ _ _ hF hG2
    by_cases h0 : w = 0
    · simp (disch := first | assumption | omega) only [XK_s, x_m_drawn_0, x_m_drawn_1, x_m_drawn_4, x_m_drawn_7, x_m_drawn_8, x_m_drawn_9, x_m_drawn_10, x_m_drawn_11, x_m_drawn_14, x_m_drawn_17, x_m_drawn_19, x_m_drawn_20, x_m_drawn_21, x_m_drawn_24, x_m_drawn_27, x_m_drawn_29, x_m_drawn_30, x_m_drawn_31, x_m_drawn_32, x_m_drawn_33, x_m_drawn_36, x_m_drawn_38, x_m_drawn_39, x_m_drawn_42, x_m_drawn_44, x_m_drawn_47, x_m_drawn_48, x_m_drawn_51, h0, if_true] at h1 ⊢
      exact h1
    · simp (disch := first | assumption | omega) only [XK_s, x_m_drawn_0, x_m_drawn_1, x_m_drawn_4, x_m_drawn_7, x_m_drawn_8, x_m_drawn_9, x_m_drawn_10, x_m_drawn_11, x_m_drawn_14, x_m_drawn_17, x_m_drawn_19, x_m_drawn_20, x_m_drawn_21, x_m_drawn_24, x_m_drawn_27, x_m_drawn_29, x_m_drawn_30, x_m_drawn_31, x_m_drawn_32, x_m_drawn_33, x_m_drawn_36, x_m_drawn_38, x_m_drawn_39, x_m_drawn_42, x_m_drawn_44, x_m_drawn_47, x_m_drawn_48, x_m_drawn_51, qn0, h0, if_false, h8] at h1 ⊢
      exact h1
  · simp only [h, not_false_eq_true, if_false, if_true] at hQ ⊢
    exact hQ _ _ (FW_r _ _) hG
def nearX (a l : Nat) : Int32 := if nI 0 ≤ nI a - nI l then nI a - nI l else nI 0 - (nI a - nI l)
def nearC (G : Nat → Nat) (l : Nat) (z : Int32) : Nat → Nat
  | 0 => 0
  | k + 1 => nearC G l z k + (if nI 1 < nearX (mdN (drN G l (z + nI k)).2) l then 0 else 1)
theorem nearC_s (G : Nat → Nat) (l : Nat) (z : Int32) (k : Nat) : nearC G l z (k + 1) = nearC G l z k + (if nI 1 < nearX (mdN (drN G l (z + nI k)).2) l then 0 else 1) := rfl
theorem nearC_le (G : Nat → Nat) (l : Nat) (z : Int32) : ∀ k, nearC G l z k ≤ k
  | 0 => Nat.le_refl _
  | k + 1 => by
    have := nearC_le G l z k
    rw [nearC_s]
    split <;> omega
theorem lp_m_chance {l m : Nat} {z i4 : Int32} (hl : l < 9) (hm : m ≤ 10) (hG : ∀ k, k < 101 → jv 119 k = lN (G k)) (hB : IB G) (hD : DS G) (hn : nz (wt G 0)) (hgv : ∀ i, i < 8 → G (42 + 6 * i) + 9 ≤ 1000) (hQ : ∀ iv' jv', FW iv jv iv' jv' → (∀ k, k < 101 → jv' 119 k = lN (G k)) → XT (d + 10) Ym_chance 49 [.ref 118, .int z, .int (nI l), .int (nI m), .int i4, .int (nI (nearC G l z m)), .int (nI m)] [] iv' jv' Q) : ∀ n k, k + n = m → ∀ iv1 jv1, FW iv jv iv1 jv1 → (∀ k, k < 101 → jv1 119 k = lN (G k)) → XT (d + 10) Ym_chance 49 [.ref 118, .int z, .int (nI l), .int (nI m), .int i4, .int (nI (nearC G l z k)), .int (nI k)] [] iv1 jv1 Q := by
  intro n
  induction n with
  | zero =>
    intro k hk iv1 jv1 hF hG1
    obtain rfl : k = m := by omega
    exact hQ _ _ hF hG1
  | succ n ih =>
    intro k hk iv1 jv1 hF hG1
    have h4 : ¬ m ≤ k := by omega
    have h5 := nearC_le G l z k
    rw [x_m_chance_49]
    simp (disch := first | assumption | omega) only [x_m_chance_0, x_m_chance_1, x_m_chance_4, x_m_chance_7, x_m_chance_8, x_m_chance_9, x_m_chance_10, x_m_chance_13, x_m_chance_16, x_m_chance_19, x_m_chance_21, x_m_chance_22, x_m_chance_23, x_m_chance_24, x_m_chance_27, x_m_chance_30, x_m_chance_32, x_m_chance_33, x_m_chance_34, x_m_chance_37, x_m_chance_40, x_m_chance_42, x_m_chance_43, x_m_chance_44, x_m_chance_46, x_m_chance_47, x_m_chance_51, x_m_chance_52, x_m_chance_55, x_m_chance_56, x_m_chance_57, x_m_chance_59, x_m_chance_60, x_m_chance_61, x_m_chance_64, x_m_chance_65, x_m_chance_67, x_m_chance_68, x_m_chance_71, x_m_chance_72, x_m_chance_73, x_m_chance_76, x_m_chance_77, x_m_chance_80, x_m_chance_81, x_m_chance_84, x_m_chance_85, x_m_chance_86, x_m_chance_88, x_m_chance_91, x_m_chance_94, x_m_chance_96, x_m_chance_99, x_m_chance_101, x_m_chance_104, x_m_chance_105, x_m_chance_107, x_m_chance_108, x_m_chance_109, x_m_chance_110, x_m_chance_113, x_m_chance_114, x_m_chance_115, q_le, h4, if_false]
    refine sp_draws hl hG1 hB hD hn hgv (fun iv2 jv2 hF2 hG2 h8 => ?_)
    have h9 := ih (k + 1) (by omega) _ _ (FW_t hF hF2) hG2
    rw [nearC_s] at h9
    simp (disch := first | assumption | omega) only [XK_s, x_m_chance_0, x_m_chance_1, x_m_chance_4, x_m_chance_7, x_m_chance_8, x_m_chance_9, x_m_chance_10, x_m_chance_13, x_m_chance_16, x_m_chance_19, x_m_chance_21, x_m_chance_22, x_m_chance_23, x_m_chance_24, x_m_chance_27, x_m_chance_30, x_m_chance_32, x_m_chance_33, x_m_chance_34, x_m_chance_37, x_m_chance_40, x_m_chance_42, x_m_chance_43, x_m_chance_44, x_m_chance_46, x_m_chance_47, x_m_chance_51, x_m_chance_52, x_m_chance_55, x_m_chance_56, x_m_chance_57, x_m_chance_59, x_m_chance_60, x_m_chance_61, x_m_chance_64, x_m_chance_65, x_m_chance_67, x_m_chance_68, x_m_chance_71, x_m_chance_72, x_m_chance_73, x_m_chance_76, x_m_chance_77, x_m_chance_80, x_m_chance_81, x_m_chance_84, x_m_chance_85, x_m_chance_86, x_m_chance_88, x_m_chance_91, x_m_chance_94, x_m_chance_96, x_m_chance_99, x_m_chance_101, x_m_chance_104, x_m_chance_105, x_m_chance_107, x_m_chance_108, x_m_chance_109, x_m_chance_110, x_m_chance_113, x_m_chance_114, x_m_chance_115, h8]
    by_cases h : nI 1 < nearX (mdN (drN G l (z + nI k)).2) l
    · rw [if_pos h] at h9
      unfold nearX at h
      simp only [h, if_true, q_add]
      exact h9
    · rw [if_neg h] at h9
      unfold nearX at h
      simp only [h, if_false, q_add]
      exact h9
def vChance (G : Nat → Nat) (z : Int32) (l m p : Nat) : Int32 := if G 34 = 1 then nI (frN (nearC G l z m) m p) else -3
def isM (x : Int32) : Prop := 1 ≤ x.toInt ∧ x.toInt ≤ 10
theorem sp_m_chance_bad {z x y w : Int32} (h : ¬ (isLv x ∧ isM y ∧ i01 w)) : XM (d + 12) Ym_chance [.ref 118, .int z, .int x, .int y, .int w] iv jv Q = Q (some (.int (-2))) (mk iv jv) := by
  unfold isLv isM i01 at h
  by_cases p1 : 0 ≤ x.toInt ∧ x.toInt ≤ ((8 : Nat) : Int) <;> by_cases p2 : ((1 : Nat) : Int) ≤ y.toInt ∧ y.toInt ≤ ((10 : Nat) : Int) <;> by_cases p3 : ((0 : Nat) : Int) ≤ w.toInt ∧ w.toInt ≤ ((1 : Nat) : Int) <;>
  first
  | (exfalso; omega)
  | (simp (disch := first | assumption | omega) only [e_m_chance, x_m_chance_0, x_m_chance_1, x_m_chance_4, x_m_chance_7, x_m_chance_8, x_m_chance_9, x_m_chance_10, x_m_chance_13, x_m_chance_16, x_m_chance_19, x_m_chance_21, x_m_chance_22, x_m_chance_23, x_m_chance_24, x_m_chance_27, x_m_chance_30, x_m_chance_32, x_m_chance_33, x_m_chance_34, x_m_chance_37, x_m_chance_40, x_m_chance_42, x_m_chance_43, x_m_chance_44, x_m_chance_46, x_m_chance_47, x_m_chance_51, x_m_chance_52, x_m_chance_55, x_m_chance_56, x_m_chance_57, x_m_chance_59, x_m_chance_60, x_m_chance_61, x_m_chance_64, x_m_chance_65, x_m_chance_67, x_m_chance_68, x_m_chance_71, x_m_chance_72, x_m_chance_73, x_m_chance_76, x_m_chance_77, x_m_chance_80, x_m_chance_81, x_m_chance_84, x_m_chance_85, x_m_chance_86, x_m_chance_88, x_m_chance_91, x_m_chance_94, x_m_chance_96, x_m_chance_99, x_m_chance_101, x_m_chance_104, x_m_chance_105, x_m_chance_107, x_m_chance_108, x_m_chance_109, x_m_chance_110, x_m_chance_113, x_m_chance_114, x_m_chance_115, sp_isInI, sp_m_isLevel, XK_s, b01_eq0, p1, p2, p3, not_false_eq_true, not_true_eq_false, if_true, if_false, and_self])
theorem sp_m_chance {l m p : Nat} {z : Int32} (hl : l < 9) (hm1 : 1 ≤ m) (hm : m ≤ 10) (hp : p < 2) (hG : ∀ k, k < 101 → jv 119 k = lN (G k)) (hB : IB G) (hD : DS G) (hn : nz (wt G 0)) (hgv : ∀ i, i < 8 → G (42 + 6 * i) + 9 ≤ 1000) (hQ : ∀ iv' jv', FW iv jv iv' jv' → (∀ k, k < 101 → jv' 119 k = lN (G k)) → Q (some (.int (vChance G z l m p))) (mk iv' jv')) : XM (d + 11) Ym_chance [.ref 118, .int z, .int (nI l), .int (nI m), .int (nI p)] iv jv Q := by
  have g34 := hG 34 (by decide)
  have b13 : G 34 ≤ 1 := hB.2.2.2.2.2.2.2.2.2.2.2.2
  have hl8 : l ≤ 8 := by omega
  have hp1 : p ≤ 1 := by omega
  unfold vChance at hQ
  simp (disch := first | assumption | omega) only [e_m_chance, x_m_chance_0, x_m_chance_1, x_m_chance_4, x_m_chance_7, x_m_chance_8, x_m_chance_9, x_m_chance_10, x_m_chance_13, x_m_chance_16, x_m_chance_19, x_m_chance_21, x_m_chance_22, x_m_chance_23, x_m_chance_24, x_m_chance_27, x_m_chance_30, x_m_chance_32, x_m_chance_33, x_m_chance_34, x_m_chance_37, x_m_chance_40, x_m_chance_42, x_m_chance_43, x_m_chance_44, x_m_chance_46, x_m_chance_47, x_m_chance_51, x_m_chance_52, x_m_chance_55, x_m_chance_56, x_m_chance_57, x_m_chance_59, x_m_chance_60, x_m_chance_61, x_m_chance_64, x_m_chance_65, x_m_chance_67, x_m_chance_68, x_m_chance_71, x_m_chance_72, x_m_chance_73, x_m_chance_76, x_m_chance_77, x_m_chance_80, x_m_chance_81, x_m_chance_84, x_m_chance_85, x_m_chance_86, x_m_chance_88, x_m_chance_91, x_m_chance_94, x_m_chance_96, x_m_chance_99, x_m_chance_101, x_m_chance_104, x_m_chance_105, x_m_chance_107, x_m_chance_108, x_m_chance_109, x_m_chance_110, x_m_chance_113, x_m_chance_114, x_m_chance_115, sp_isLevelN, q_i2l, sp_isInN, sp_m_isOn g34 b13, XK_s, b01_eq0, hl8, hm1, hm, hp1, Nat.zero_le, true_and, not_true_eq_false, if_false]
  by_cases h : G 34 = 1
  · simp only [h, not_true_eq_false, if_false, if_true] at hQ ⊢
    refine lp_m_chance (iv := iv) (jv := jv) hl hm hG hB hD hn hgv (fun iv' jv' hF hG2 => ?_) m 0 (by omega) _ _ (FW_r _ _) hG
    have h5 := nearC_le G l z m
    have g1 : 0 < Nat.gcd (nearC G l z m) m := Nat.gcd_pos_of_pos_right _ hm1
    have g2 : Nat.gcd (nearC G l z m) m ≤ m := Nat.le_of_dvd hm1 (Nat.gcd_dvd_right _ _)
    have g3 : ¬ (Nat.gcd (nearC G l z m) m = 0) := by omega
    have g4 : ¬ (nI (Nat.gcd (nearC G l z m) m) = 0) := by
      rw [show (0 : Int32) = nI 0 from rfl, qn0 (by omega)]; exact g3
    have h1 := hQ _ _ hF hG2
    rw [x_m_chance_49]
    by_cases h0 : p = 0
    · subst h0
      simp (disch := first | assumption | omega) only [x_m_chance_0, x_m_chance_1, x_m_chance_4, x_m_chance_7, x_m_chance_8, x_m_chance_9, x_m_chance_10, x_m_chance_13, x_m_chance_16, x_m_chance_19, x_m_chance_21, x_m_chance_22, x_m_chance_23, x_m_chance_24, x_m_chance_27, x_m_chance_30, x_m_chance_32, x_m_chance_33, x_m_chance_34, x_m_chance_37, x_m_chance_40, x_m_chance_42, x_m_chance_43, x_m_chance_44, x_m_chance_46, x_m_chance_47, x_m_chance_51, x_m_chance_52, x_m_chance_55, x_m_chance_56, x_m_chance_57, x_m_chance_59, x_m_chance_60, x_m_chance_61, x_m_chance_64, x_m_chance_65, x_m_chance_67, x_m_chance_68, x_m_chance_71, x_m_chance_72, x_m_chance_73, x_m_chance_76, x_m_chance_77, x_m_chance_80, x_m_chance_81, x_m_chance_84, x_m_chance_85, x_m_chance_86, x_m_chance_88, x_m_chance_91, x_m_chance_94, x_m_chance_96, x_m_chance_99, x_m_chance_101, x_m_chance_104, x_m_chance_105, x_m_chance_107, x_m_chance_108, x_m_chance_109, x_m_chance_110, x_m_chance_113, x_m_chance_114, x_m_chance_115, q_le, Nat.le_refl, if_true, q_i2l, sp_m_common, XK_s, q_l2i, g4, not_false_eq_true, true_and, q_div, frN] at h1 ⊢
      exact h1
    · simp (disch := first | assumption | omega) only [x_m_chance_0, x_m_chance_1, x_m_chance_4, x_m_chance_7, x_m_chance_8, x_m_chance_9, x_m_chance_10, x_m_chance_13, x_m_chance_16, x_m_chance_19, x_m_chance_21, x_m_chance_22, x_m_chance_23, x_m_chance_24, x_m_chance_27, x_m_chance_30, x_m_chance_32, x_m_chance_33, x_m_chance_34, x_m_chance_37, x_m_chance_40, x_m_chance_42, x_m_chance_43, x_m_chance_44, x_m_chance_46, x_m_chance_47, x_m_chance_51, x_m_chance_52, x_m_chance_55, x_m_chance_56, x_m_chance_57, x_m_chance_59, x_m_chance_60, x_m_chance_61, x_m_chance_64, x_m_chance_65, x_m_chance_67, x_m_chance_68, x_m_chance_71, x_m_chance_72, x_m_chance_73, x_m_chance_76, x_m_chance_77, x_m_chance_80, x_m_chance_81, x_m_chance_84, x_m_chance_85, x_m_chance_86, x_m_chance_88, x_m_chance_91, x_m_chance_94, x_m_chance_96, x_m_chance_99, x_m_chance_101, x_m_chance_104, x_m_chance_105, x_m_chance_107, x_m_chance_108, x_m_chance_109, x_m_chance_110, x_m_chance_113, x_m_chance_114, x_m_chance_115, q_le, Nat.le_refl, if_true, qn0, h0, if_false, q_i2l, sp_m_common, XK_s, q_l2i, g4, not_false_eq_true, true_and, q_div, frN] at h1 ⊢
      exact h1
  · simp only [h, not_false_eq_true, if_false, if_true] at hQ ⊢
    exact hQ _ _ (FW_r _ _) hG
end CHANCE
