section REF2
variable {d : Nat} {iv : mI} {jv : mJ} {Q : Option Value → mH → Prop} {G : Nat → Nat}
theorem sp_m_has {s k : Nat} (hs : s < 256) (hk : k < 8) : XM (d + 1) Ym_has [.long (lN s), .int (nI k)] iv jv Q = Q (some (.int (b01 (s.testBit k = true)))) (mk iv jv) := by
  have h := bit_has s hs k hk
  simp only [e_m_has, x_m_has_0, x_m_has_1, x_m_has_2, x_m_has_3, x_m_has_4, x_m_has_5, x_m_has_6, x_m_has_7, x_m_has_10, x_m_has_11, x_m_has_14, x_m_has_15, c_eq, z01, z11, true_and, propext h]
  by_cases h1 : s.testBit k = true
  · simp [h1, b01]
  · simp [h1, b01]
theorem lp_m_bits (i0 : Int32) : ∀ n s, s ≤ n → s < 256 → ∀ c, XT d Ym_bits 4 [.int i0, .int (nI c), .int (nI s)] [] iv jv Q = Q (some (.int (nI (c + cntB s 8)))) (mk iv jv) := by
  intro n
  induction n with
  | zero =>
    intro s hs _ c
    obtain rfl : s = 0 := by omega
    rw [x_m_bits_4]
    simp (disch := omega) only [x_m_bits_0, x_m_bits_1, x_m_bits_2, x_m_bits_3, x_m_bits_5, x_m_bits_8, x_m_bits_11, x_m_bits_12, x_m_bits_13, x_m_bits_14, x_m_bits_15, x_m_bits_16, x_m_bits_17, x_m_bits_20, x_m_bits_21, q_eq, if_true]
    rfl
  | succ n ih =>
    intro s hs h256 c
    by_cases h0 : s = 0
    · subst h0
      rw [x_m_bits_4]
      simp (disch := omega) only [x_m_bits_0, x_m_bits_1, x_m_bits_2, x_m_bits_3, x_m_bits_5, x_m_bits_8, x_m_bits_11, x_m_bits_12, x_m_bits_13, x_m_bits_14, x_m_bits_15, x_m_bits_16, x_m_bits_17, x_m_bits_20, x_m_bits_21, q_eq, if_true]
      rfl
    · obtain ⟨h1, h2, h3⟩ := bit_low s h256 h0
      rw [x_m_bits_4]
      simp (disch := omega) only [x_m_bits_0, x_m_bits_1, x_m_bits_2, x_m_bits_3, x_m_bits_5, x_m_bits_8, x_m_bits_11, x_m_bits_12, x_m_bits_13, x_m_bits_14, x_m_bits_15, x_m_bits_16, x_m_bits_17, x_m_bits_20, x_m_bits_21, q_eq, h0, if_false, h1, q_add]
      rw [ih _ (by omega) (by omega), ← h3]
      congr 4
      omega
theorem sp_m_bits {s : Nat} (hs : s < 256) : XM (d + 1) Ym_bits [.int (nI s)] iv jv Q = Q (some (.int (nI (cntB s 8)))) (mk iv jv) := by
  simp only [e_m_bits, x_m_bits_0, x_m_bits_1, x_m_bits_2, x_m_bits_3, x_m_bits_5, x_m_bits_8, x_m_bits_11, x_m_bits_12, x_m_bits_13, x_m_bits_14, x_m_bits_15, x_m_bits_16, x_m_bits_17, x_m_bits_20, x_m_bits_21]
  rw [lp_m_bits _ s s (Nat.le_refl _) hs, Nat.zero_add]
theorem le_sub1 (x : Int32) {a : Nat} (ha : a ≤ 100) : (lN 0 ≤ x.toInt64 ∧ x.toInt64 ≤ lN a - lN 1) ↔ (0 ≤ x.toInt ∧ x.toInt < (a : Int)) := by
  have h : ∀ a, a ≤ 100 → (lN a - lN 1).toInt = (a : Int) - 1 := by decide +kernel
  rw [Int64.le_iff_toInt_le, Int64.le_iff_toInt_le, toI64, h a ha, lN_toI (by omega)]
  omega
theorem sp_m_isItem (x : Int32) (h29 : jv 119 29 = lN (G 29)) (hB : G 29 ≤ 8) : XM (d + 2) Ym_isItem [.ref 118, .int x] iv jv Q = Q (some (.int (b01 (0 ≤ x.toInt ∧ x.toInt < (G 29 : Int))))) (mk iv jv) := by
  simp (disch := omega) only [e_m_isItem, x_m_isItem_0, x_m_isItem_1, x_m_isItem_2, x_m_isItem_3, x_m_isItem_4, x_m_isItem_7, x_m_isItem_9, x_m_isItem_10, x_m_isItem_11, x_m_isItem_12, x_m_isItem_15, q_in, q_tn, true_and, h29, sp_m_isIn, XK_s, b01_ok]
  rw [b01_congr (le_sub1 x (by omega))]
theorem sp_m_isLevel (x : Int32) : XM (d + 2) Ym_isLevel [.int x] iv jv Q = Q (some (.int (b01 (0 ≤ x.toInt ∧ x.toInt ≤ (8 : Nat))))) (mk iv jv) := by
  simp (disch := omega) only [e_m_isLevel, x_m_isLevel_0, x_m_isLevel_1, x_m_isLevel_2, x_m_isLevel_3, x_m_isLevel_6, x_m_isLevel_9, sp_isIn0, XK_s, b01_ok, true_and]
theorem sp_m_isArea (x : Int32) : XM (d + 2) Ym_isArea [.int x] iv jv Q = Q (some (.int (b01 (0 ≤ x.toInt ∧ x.toInt ≤ (2 : Nat))))) (mk iv jv) := by
  simp (disch := omega) only [e_m_isArea, x_m_isArea_0, x_m_isArea_1, x_m_isArea_2, x_m_isArea_3, x_m_isArea_6, x_m_isArea_9, sp_isIn0, XK_s, b01_ok, true_and]
theorem sp_m_isOn (h34 : jv 119 34 = lN (G 34)) (hB : G 34 ≤ 1) : XM (d + 1) Ym_isOn [.ref 118] iv jv Q = Q (some (.int (b01 (G 34 = 1)))) (mk iv jv) := by
  simp (disch := omega) only [e_m_isOn, x_m_isOn_0, x_m_isOn_1, x_m_isOn_4, x_m_isOn_6, x_m_isOn_7, x_m_isOn_8, x_m_isOn_9, x_m_isOn_12, x_m_isOn_13, x_m_isOn_16, x_m_isOn_17, q_in, q_tn, true_and, h34, c_eq, q_leq, z01, z11]
  by_cases h : G 34 = 1 <;> simp [h, b01]
theorem sp_m_right {k h s l : Nat} (hk : k < 6) (hh : h < 9) (hs : s < 4) (hl : l < 9) : XM (d + 2) Ym_right [.int (nI k), .int (nI h), .int (nI s), .int (nI l)] iv jv Q = Q (some (.int (nI (rightN k h s l)))) (mk iv jv) := by
  match k, hk with
  | 0, _ =>
    simp (disch := decide) only [e_m_right, x_m_right_0, x_m_right_2, x_m_right_3, x_m_right_4, x_m_right_5, x_m_right_6, x_m_right_7, x_m_right_8, x_m_right_9, x_m_right_10, x_m_right_11, x_m_right_13, x_m_right_16, x_m_right_18, x_m_right_19_1, x_m_right_19_2, x_m_right_19_3, x_m_right_19_4, x_m_right_19_5, x_m_right_52, x_m_right_53, x_m_right_55, x_m_right_58, x_m_right_59, x_m_right_61, x_m_right_63, x_m_right_66, x_m_right_67, x_m_right_69, x_m_right_70, x_m_right_72, x_m_right_75, x_m_right_76, x_m_right_77, x_m_right_79, x_m_right_81, x_m_right_84, x_m_right_85, x_m_right_86, x_m_right_89, x_m_right_90, x_m_right_92, x_m_right_93, x_m_right_95, e_m_held, x_m_held_0, x_m_held_1, x_m_held_2, x_m_held_3, x_m_held_6, x_m_held_9, XK_s, x_m_right_19_d]
    refine congrArg (fun z => Q (some (.int z)) (mk iv jv)) ?_
    revert l; revert s; revert h; decide +kernel
  | 1, _ =>
    simp only [e_m_right, x_m_right_0, x_m_right_2, x_m_right_3, x_m_right_4, x_m_right_5, x_m_right_6, x_m_right_7, x_m_right_8, x_m_right_9, x_m_right_10, x_m_right_11, x_m_right_13, x_m_right_16, x_m_right_18, x_m_right_19_1, x_m_right_19_2, x_m_right_19_3, x_m_right_19_4, x_m_right_19_5, x_m_right_52, x_m_right_53, x_m_right_55, x_m_right_58, x_m_right_59, x_m_right_61, x_m_right_63, x_m_right_66, x_m_right_67, x_m_right_69, x_m_right_70, x_m_right_72, x_m_right_75, x_m_right_76, x_m_right_77, x_m_right_79, x_m_right_81, x_m_right_84, x_m_right_85, x_m_right_86, x_m_right_89, x_m_right_90, x_m_right_92, x_m_right_93, x_m_right_95, e_m_held, x_m_held_0, x_m_held_1, x_m_held_2, x_m_held_3, x_m_held_6, x_m_held_9, XK_s]
    refine congrArg (fun z => Q (some (.int z)) (mk iv jv)) ?_
    revert l; revert s; revert h; decide +kernel
  | 2, _ =>
    simp only [e_m_right, x_m_right_0, x_m_right_2, x_m_right_3, x_m_right_4, x_m_right_5, x_m_right_6, x_m_right_7, x_m_right_8, x_m_right_9, x_m_right_10, x_m_right_11, x_m_right_13, x_m_right_16, x_m_right_18, x_m_right_19_1, x_m_right_19_2, x_m_right_19_3, x_m_right_19_4, x_m_right_19_5, x_m_right_52, x_m_right_53, x_m_right_55, x_m_right_58, x_m_right_59, x_m_right_61, x_m_right_63, x_m_right_66, x_m_right_67, x_m_right_69, x_m_right_70, x_m_right_72, x_m_right_75, x_m_right_76, x_m_right_77, x_m_right_79, x_m_right_81, x_m_right_84, x_m_right_85, x_m_right_86, x_m_right_89, x_m_right_90, x_m_right_92, x_m_right_93, x_m_right_95, e_m_held, x_m_held_0, x_m_held_1, x_m_held_2, x_m_held_3, x_m_held_6, x_m_held_9, XK_s]
    refine congrArg (fun z => Q (some (.int z)) (mk iv jv)) ?_
    revert l; revert s; revert h; decide +kernel
  | 3, _ =>
    simp only [e_m_right, x_m_right_0, x_m_right_2, x_m_right_3, x_m_right_4, x_m_right_5, x_m_right_6, x_m_right_7, x_m_right_8, x_m_right_9, x_m_right_10, x_m_right_11, x_m_right_13, x_m_right_16, x_m_right_18, x_m_right_19_1, x_m_right_19_2, x_m_right_19_3, x_m_right_19_4, x_m_right_19_5, x_m_right_52, x_m_right_53, x_m_right_55, x_m_right_58, x_m_right_59, x_m_right_61, x_m_right_63, x_m_right_66, x_m_right_67, x_m_right_69, x_m_right_70, x_m_right_72, x_m_right_75, x_m_right_76, x_m_right_77, x_m_right_79, x_m_right_81, x_m_right_84, x_m_right_85, x_m_right_86, x_m_right_89, x_m_right_90, x_m_right_92, x_m_right_93, x_m_right_95, e_m_held, x_m_held_0, x_m_held_1, x_m_held_2, x_m_held_3, x_m_held_6, x_m_held_9, XK_s]
    refine congrArg (fun z => Q (some (.int z)) (mk iv jv)) ?_
    revert l; revert s; revert h; decide +kernel
  | 4, _ =>
    have h2 : (¬ nI 2 = 0) = True := by simp; decide
    simp only [e_m_right, x_m_right_0, x_m_right_2, x_m_right_3, x_m_right_4, x_m_right_5, x_m_right_6, x_m_right_7, x_m_right_8, x_m_right_9, x_m_right_10, x_m_right_11, x_m_right_13, x_m_right_16, x_m_right_18, x_m_right_19_1, x_m_right_19_2, x_m_right_19_3, x_m_right_19_4, x_m_right_19_5, x_m_right_52, x_m_right_53, x_m_right_55, x_m_right_58, x_m_right_59, x_m_right_61, x_m_right_63, x_m_right_66, x_m_right_67, x_m_right_69, x_m_right_70, x_m_right_72, x_m_right_75, x_m_right_76, x_m_right_77, x_m_right_79, x_m_right_81, x_m_right_84, x_m_right_85, x_m_right_86, x_m_right_89, x_m_right_90, x_m_right_92, x_m_right_93, x_m_right_95, e_m_held, x_m_held_0, x_m_held_1, x_m_held_2, x_m_held_3, x_m_held_6, x_m_held_9, XK_s, h2, true_and]
    refine congrArg (fun z => Q (some (.int z)) (mk iv jv)) ?_
    revert l; revert s; revert h; decide +kernel
  | 5, _ =>
    simp only [e_m_right, x_m_right_0, x_m_right_2, x_m_right_3, x_m_right_4, x_m_right_5, x_m_right_6, x_m_right_7, x_m_right_8, x_m_right_9, x_m_right_10, x_m_right_11, x_m_right_13, x_m_right_16, x_m_right_18, x_m_right_19_1, x_m_right_19_2, x_m_right_19_3, x_m_right_19_4, x_m_right_19_5, x_m_right_52, x_m_right_53, x_m_right_55, x_m_right_58, x_m_right_59, x_m_right_61, x_m_right_63, x_m_right_66, x_m_right_67, x_m_right_69, x_m_right_70, x_m_right_72, x_m_right_75, x_m_right_76, x_m_right_77, x_m_right_79, x_m_right_81, x_m_right_84, x_m_right_85, x_m_right_86, x_m_right_89, x_m_right_90, x_m_right_92, x_m_right_93, x_m_right_95, e_m_held, x_m_held_0, x_m_held_1, x_m_held_2, x_m_held_3, x_m_held_6, x_m_held_9, XK_s]
    refine congrArg (fun z => Q (some (.int z)) (mk iv jv)) ?_
    revert l; revert s; revert h; decide +kernel
theorem sp_m_rightOf {i l : Nat} (hG : ∀ k, k < 101 → jv 119 k = lN (G k)) (hB : IB G) (hi : i < 8) (hl : l < 9) : XM (d + 3) Ym_rightOf [.ref 118, .int (nI i), .int (nI l)] iv jv Q = Q (some (.int (nI (rgt G i l)))) (mk iv jv) := by
  obtain ⟨b1, b2, b3, b4, b5, b6⟩ := hB
  have c := b4 i hi
  simp (disch := omega) only [e_m_rightOf, x_m_rightOf_0, x_m_rightOf_1, x_m_rightOf_2, x_m_rightOf_3, x_m_rightOf_6, x_m_rightOf_7, x_m_rightOf_8, x_m_rightOf_9, x_m_rightOf_12, x_m_rightOf_13, x_m_rightOf_14, x_m_rightOf_15, x_m_rightOf_18, x_m_rightOf_19, x_m_rightOf_22, sp_m_of, XK_s, hG, q_l2i, Nat.add_zero, sp_m_right]
  rfl
theorem tells_fin : ∀ s, s < 4 → ∀ r, r < 16 → (nI s * nI s * nI r * (nI 16 - nI r) = nI (s * s * r * (16 - r))) := by decide +kernel
theorem sp_m_tellsOf {i l : Nat} (hG : ∀ k, k < 101 → jv 119 k = lN (G k)) (hB : IB G) (hi : i < 8) (hl : l < 9) : XM (d + 4) Ym_tellsOf [.ref 118, .int (nI i), .int (nI l)] iv jv Q = Q (some (.int (nI (tel G i l)))) (mk iv jv) := by
  obtain ⟨b1, b2, b3, b4, b5, b6⟩ := id hB
  have c := b4 i hi
  have r := rgt_in G i l
  simp (disch := omega) only [e_m_tellsOf, x_m_tellsOf_0, x_m_tellsOf_1, x_m_tellsOf_2, x_m_tellsOf_3, x_m_tellsOf_6, x_m_tellsOf_7, x_m_tellsOf_8, x_m_tellsOf_9, x_m_tellsOf_10, x_m_tellsOf_13, x_m_tellsOf_14, x_m_tellsOf_15, x_m_tellsOf_16, x_m_tellsOf_19, x_m_tellsOf_20, x_m_tellsOf_21, x_m_tellsOf_22, x_m_tellsOf_24, x_m_tellsOf_25, x_m_tellsOf_26, x_m_tellsOf_27, x_m_tellsOf_29, x_m_tellsOf_30, x_m_tellsOf_31, x_m_tellsOf_32, x_m_tellsOf_35_1, x_m_tellsOf_35_2, x_m_tellsOf_35_3, x_m_tellsOf_35_4, x_m_tellsOf_35_5, x_m_tellsOf_68, x_m_tellsOf_69, x_m_tellsOf_71, x_m_tellsOf_73, x_m_tellsOf_74, x_m_tellsOf_77, x_m_tellsOf_78, x_m_tellsOf_79, x_m_tellsOf_81, x_m_tellsOf_83, x_m_tellsOf_84, x_m_tellsOf_87, x_m_tellsOf_89, x_m_tellsOf_90, x_m_tellsOf_91, x_m_tellsOf_93, x_m_tellsOf_94, x_m_tellsOf_95, x_m_tellsOf_96, x_m_tellsOf_97, x_m_tellsOf_98, x_m_tellsOf_100, sp_m_rightOf hG hB hi hl, sp_m_of, XK_s, hG, q_l2i, Nat.add_zero]
  have hr : ∃ k, k < 6 ∧ G (37 + 6 * i) = k := ⟨_, by omega, rfl⟩
  obtain ⟨k, hk, ek⟩ := hr
  have hs : ∃ s, s < 4 ∧ G (37 + 6 * i + 3) = s := ⟨_, by omega, rfl⟩
  obtain ⟨s, hs, es⟩ := hs
  have hq : ∃ q, q < 16 ∧ rgt G i l = q := ⟨_, by omega, rfl⟩
  obtain ⟨q, hq, eq⟩ := hq
  unfold tel
  rw [ek, es, eq]
  match k, hk with
  | 0, _ =>
    simp (disch := decide) only [x_m_tellsOf_0, x_m_tellsOf_1, x_m_tellsOf_2, x_m_tellsOf_3, x_m_tellsOf_6, x_m_tellsOf_7, x_m_tellsOf_8, x_m_tellsOf_9, x_m_tellsOf_10, x_m_tellsOf_13, x_m_tellsOf_14, x_m_tellsOf_15, x_m_tellsOf_16, x_m_tellsOf_19, x_m_tellsOf_20, x_m_tellsOf_21, x_m_tellsOf_22, x_m_tellsOf_24, x_m_tellsOf_25, x_m_tellsOf_26, x_m_tellsOf_27, x_m_tellsOf_29, x_m_tellsOf_30, x_m_tellsOf_31, x_m_tellsOf_32, x_m_tellsOf_35_1, x_m_tellsOf_35_2, x_m_tellsOf_35_3, x_m_tellsOf_35_4, x_m_tellsOf_35_5, x_m_tellsOf_68, x_m_tellsOf_69, x_m_tellsOf_71, x_m_tellsOf_73, x_m_tellsOf_74, x_m_tellsOf_77, x_m_tellsOf_78, x_m_tellsOf_79, x_m_tellsOf_81, x_m_tellsOf_83, x_m_tellsOf_84, x_m_tellsOf_87, x_m_tellsOf_89, x_m_tellsOf_90, x_m_tellsOf_91, x_m_tellsOf_93, x_m_tellsOf_94, x_m_tellsOf_95, x_m_tellsOf_96, x_m_tellsOf_97, x_m_tellsOf_98, x_m_tellsOf_100, x_m_tellsOf_35_d]
    refine congrArg (fun z => Q (some (.int z)) (mk iv jv)) ?_
    clear eq es ek r c; revert q; revert s; decide +kernel
  | 1, _ =>
    simp only [x_m_tellsOf_0, x_m_tellsOf_1, x_m_tellsOf_2, x_m_tellsOf_3, x_m_tellsOf_6, x_m_tellsOf_7, x_m_tellsOf_8, x_m_tellsOf_9, x_m_tellsOf_10, x_m_tellsOf_13, x_m_tellsOf_14, x_m_tellsOf_15, x_m_tellsOf_16, x_m_tellsOf_19, x_m_tellsOf_20, x_m_tellsOf_21, x_m_tellsOf_22, x_m_tellsOf_24, x_m_tellsOf_25, x_m_tellsOf_26, x_m_tellsOf_27, x_m_tellsOf_29, x_m_tellsOf_30, x_m_tellsOf_31, x_m_tellsOf_32, x_m_tellsOf_35_1, x_m_tellsOf_35_2, x_m_tellsOf_35_3, x_m_tellsOf_35_4, x_m_tellsOf_35_5, x_m_tellsOf_68, x_m_tellsOf_69, x_m_tellsOf_71, x_m_tellsOf_73, x_m_tellsOf_74, x_m_tellsOf_77, x_m_tellsOf_78, x_m_tellsOf_79, x_m_tellsOf_81, x_m_tellsOf_83, x_m_tellsOf_84, x_m_tellsOf_87, x_m_tellsOf_89, x_m_tellsOf_90, x_m_tellsOf_91, x_m_tellsOf_93, x_m_tellsOf_94, x_m_tellsOf_95, x_m_tellsOf_96, x_m_tellsOf_97, x_m_tellsOf_98, x_m_tellsOf_100]
    refine congrArg (fun z => Q (some (.int z)) (mk iv jv)) ?_
    clear eq es ek r c; revert q; revert s; decide +kernel
  | 2, _ =>
    simp only [x_m_tellsOf_0, x_m_tellsOf_1, x_m_tellsOf_2, x_m_tellsOf_3, x_m_tellsOf_6, x_m_tellsOf_7, x_m_tellsOf_8, x_m_tellsOf_9, x_m_tellsOf_10, x_m_tellsOf_13, x_m_tellsOf_14, x_m_tellsOf_15, x_m_tellsOf_16, x_m_tellsOf_19, x_m_tellsOf_20, x_m_tellsOf_21, x_m_tellsOf_22, x_m_tellsOf_24, x_m_tellsOf_25, x_m_tellsOf_26, x_m_tellsOf_27, x_m_tellsOf_29, x_m_tellsOf_30, x_m_tellsOf_31, x_m_tellsOf_32, x_m_tellsOf_35_1, x_m_tellsOf_35_2, x_m_tellsOf_35_3, x_m_tellsOf_35_4, x_m_tellsOf_35_5, x_m_tellsOf_68, x_m_tellsOf_69, x_m_tellsOf_71, x_m_tellsOf_73, x_m_tellsOf_74, x_m_tellsOf_77, x_m_tellsOf_78, x_m_tellsOf_79, x_m_tellsOf_81, x_m_tellsOf_83, x_m_tellsOf_84, x_m_tellsOf_87, x_m_tellsOf_89, x_m_tellsOf_90, x_m_tellsOf_91, x_m_tellsOf_93, x_m_tellsOf_94, x_m_tellsOf_95, x_m_tellsOf_96, x_m_tellsOf_97, x_m_tellsOf_98, x_m_tellsOf_100]
    refine congrArg (fun z => Q (some (.int z)) (mk iv jv)) ?_
    clear eq es ek r c; revert q; revert s; decide +kernel
  | 3, _ =>
    simp only [x_m_tellsOf_0, x_m_tellsOf_1, x_m_tellsOf_2, x_m_tellsOf_3, x_m_tellsOf_6, x_m_tellsOf_7, x_m_tellsOf_8, x_m_tellsOf_9, x_m_tellsOf_10, x_m_tellsOf_13, x_m_tellsOf_14, x_m_tellsOf_15, x_m_tellsOf_16, x_m_tellsOf_19, x_m_tellsOf_20, x_m_tellsOf_21, x_m_tellsOf_22, x_m_tellsOf_24, x_m_tellsOf_25, x_m_tellsOf_26, x_m_tellsOf_27, x_m_tellsOf_29, x_m_tellsOf_30, x_m_tellsOf_31, x_m_tellsOf_32, x_m_tellsOf_35_1, x_m_tellsOf_35_2, x_m_tellsOf_35_3, x_m_tellsOf_35_4, x_m_tellsOf_35_5, x_m_tellsOf_68, x_m_tellsOf_69, x_m_tellsOf_71, x_m_tellsOf_73, x_m_tellsOf_74, x_m_tellsOf_77, x_m_tellsOf_78, x_m_tellsOf_79, x_m_tellsOf_81, x_m_tellsOf_83, x_m_tellsOf_84, x_m_tellsOf_87, x_m_tellsOf_89, x_m_tellsOf_90, x_m_tellsOf_91, x_m_tellsOf_93, x_m_tellsOf_94, x_m_tellsOf_95, x_m_tellsOf_96, x_m_tellsOf_97, x_m_tellsOf_98, x_m_tellsOf_100]
    refine congrArg (fun z => Q (some (.int z)) (mk iv jv)) ?_
    clear eq es ek r c; revert q; revert s; decide +kernel
  | 4, _ =>
    have h2 : (¬ nI 2 = 0) = True := by simp; decide
    simp only [x_m_tellsOf_0, x_m_tellsOf_1, x_m_tellsOf_2, x_m_tellsOf_3, x_m_tellsOf_6, x_m_tellsOf_7, x_m_tellsOf_8, x_m_tellsOf_9, x_m_tellsOf_10, x_m_tellsOf_13, x_m_tellsOf_14, x_m_tellsOf_15, x_m_tellsOf_16, x_m_tellsOf_19, x_m_tellsOf_20, x_m_tellsOf_21, x_m_tellsOf_22, x_m_tellsOf_24, x_m_tellsOf_25, x_m_tellsOf_26, x_m_tellsOf_27, x_m_tellsOf_29, x_m_tellsOf_30, x_m_tellsOf_31, x_m_tellsOf_32, x_m_tellsOf_35_1, x_m_tellsOf_35_2, x_m_tellsOf_35_3, x_m_tellsOf_35_4, x_m_tellsOf_35_5, x_m_tellsOf_68, x_m_tellsOf_69, x_m_tellsOf_71, x_m_tellsOf_73, x_m_tellsOf_74, x_m_tellsOf_77, x_m_tellsOf_78, x_m_tellsOf_79, x_m_tellsOf_81, x_m_tellsOf_83, x_m_tellsOf_84, x_m_tellsOf_87, x_m_tellsOf_89, x_m_tellsOf_90, x_m_tellsOf_91, x_m_tellsOf_93, x_m_tellsOf_94, x_m_tellsOf_95, x_m_tellsOf_96, x_m_tellsOf_97, x_m_tellsOf_98, x_m_tellsOf_100, h2, true_and]
    refine congrArg (fun z => Q (some (.int z)) (mk iv jv)) ?_
    clear eq es ek r c h2; revert q; revert s; decide +kernel
  | 5, _ =>
    simp only [x_m_tellsOf_0, x_m_tellsOf_1, x_m_tellsOf_2, x_m_tellsOf_3, x_m_tellsOf_6, x_m_tellsOf_7, x_m_tellsOf_8, x_m_tellsOf_9, x_m_tellsOf_10, x_m_tellsOf_13, x_m_tellsOf_14, x_m_tellsOf_15, x_m_tellsOf_16, x_m_tellsOf_19, x_m_tellsOf_20, x_m_tellsOf_21, x_m_tellsOf_22, x_m_tellsOf_24, x_m_tellsOf_25, x_m_tellsOf_26, x_m_tellsOf_27, x_m_tellsOf_29, x_m_tellsOf_30, x_m_tellsOf_31, x_m_tellsOf_32, x_m_tellsOf_35_1, x_m_tellsOf_35_2, x_m_tellsOf_35_3, x_m_tellsOf_35_4, x_m_tellsOf_35_5, x_m_tellsOf_68, x_m_tellsOf_69, x_m_tellsOf_71, x_m_tellsOf_73, x_m_tellsOf_74, x_m_tellsOf_77, x_m_tellsOf_78, x_m_tellsOf_79, x_m_tellsOf_81, x_m_tellsOf_83, x_m_tellsOf_84, x_m_tellsOf_87, x_m_tellsOf_89, x_m_tellsOf_90, x_m_tellsOf_91, x_m_tellsOf_93, x_m_tellsOf_94, x_m_tellsOf_95, x_m_tellsOf_96, x_m_tellsOf_97, x_m_tellsOf_98, x_m_tellsOf_100]
    refine congrArg (fun z => Q (some (.int z)) (mk iv jv)) ?_
    clear eq es ek r c; revert q; revert s; decide +kernel
theorem sp_m_answers (hG : ∀ k, k < 101 → jv 119 k = lN (G k)) : XM (d + 2) Ym_answers [.ref 118] iv jv Q = Q (some (.int (nI (G 36)))) (mk iv jv) := by
  simp (disch := omega) only [e_m_answers, x_m_answers_0, x_m_answers_1, x_m_answers_3, x_m_answers_6, sp_m_get, XK_s, hG, q_l2i]
theorem sp_m_askedAt {k : Nat} (hG : ∀ k, k < 101 → jv 119 k = lN (G k)) (hk : k < 8) : XM (d + 1) Ym_askedAt [.ref 118, .int (nI k)] iv jv Q = Q (some (.int (nI (G (85 + 2 * k))))) (mk iv jv) := by
  simp (disch := omega) only [e_m_askedAt, x_m_askedAt_0, x_m_askedAt_1, x_m_askedAt_4, x_m_askedAt_6, x_m_askedAt_7, x_m_askedAt_8, x_m_askedAt_9, x_m_askedAt_10, x_m_askedAt_11, x_m_askedAt_12, q_in, q_tn, q_add, q_mul, hG, q_l2i, true_and]
theorem lp_m_asked (hG : ∀ k, k < 101 → jv 119 k = lN (G k)) (hB : IB G) : ∀ n k, k + n = G 36 → XT (d + 2) Ym_asked 4 [.ref 118, .int (nI (askB G k)), .int (nI k)] [] iv jv Q = Q (some (.int (nI (askB G (G 36))))) (mk iv jv) := by
  obtain ⟨b1, b2, b3, b4, b5, b6⟩ := id hB
  intro n
  induction n with
  | zero =>
    intro k hk
    obtain rfl : k = G 36 := by omega
    rw [x_m_asked_4]
    simp (disch := omega) only [x_m_asked_0, x_m_asked_1, x_m_asked_2, x_m_asked_3, x_m_asked_5, x_m_asked_6, x_m_asked_9, x_m_asked_12, x_m_asked_13, x_m_asked_14, x_m_asked_15, x_m_asked_16, x_m_asked_19, x_m_asked_20, x_m_asked_21, x_m_asked_22, x_m_asked_25, x_m_asked_28, x_m_asked_29, sp_m_answers hG, XK_s, q_le, Nat.le_refl, if_true]
  | succ n ih =>
    intro k hk
    have h1 := b5 k (by omega)
    have h2 := askB_lt (fun k hk => (b5 k hk).1) k (by omega)
    have h3 := bit_or _ h2 _ h1.1
    have h4 : ¬ G 36 ≤ k := by omega
    rw [x_m_asked_4]
    simp (disch := omega) only [x_m_asked_0, x_m_asked_1, x_m_asked_2, x_m_asked_3, x_m_asked_5, x_m_asked_6, x_m_asked_9, x_m_asked_12, x_m_asked_13, x_m_asked_14, x_m_asked_15, x_m_asked_16, x_m_asked_19, x_m_asked_20, x_m_asked_21, x_m_asked_22, x_m_asked_25, x_m_asked_28, x_m_asked_29, sp_m_answers hG, sp_m_askedAt hG, XK_s, q_le, h4, if_false, h3, q_add]
    exact ih (k + 1) (by omega)
theorem sp_m_asked (hG : ∀ k, k < 101 → jv 119 k = lN (G k)) (hB : IB G) : XM (d + 3) Ym_asked [.ref 118] iv jv Q = Q (some (.int (nI (askB G (G 36))))) (mk iv jv) := by
  simp only [e_m_asked, x_m_asked_0, x_m_asked_1, x_m_asked_2, x_m_asked_3, x_m_asked_5, x_m_asked_6, x_m_asked_9, x_m_asked_12, x_m_asked_13, x_m_asked_14, x_m_asked_15, x_m_asked_16, x_m_asked_19, x_m_asked_20, x_m_asked_21, x_m_asked_22, x_m_asked_25, x_m_asked_28, x_m_asked_29]
  exact lp_m_asked hG hB (G 36) 0 (by omega)
theorem inA_s (G : Nat → Nat) (s a n : Nat) : inA G s a (n + 1) = inA G s a n + if s.testBit n = true ∧ G (37 + 6 * n + 1) = a then 1 else 0 := rfl
theorem lp_m_inArea {s a : Nat} (hG : ∀ k, k < 101 → jv 119 k = lN (G k)) (hB : IB G) (hs : s < 256) (ha : a < 100) : ∀ n i, i + n = G 29 → XT (d + 1) Ym_inArea 5 [.ref 118, .int (nI s), .int (nI a), .int (nI (inA G s a i)), .int (nI i)] [] iv jv Q = Q (some (.int (nI (inA G s a (G 29))))) (mk iv jv) := by
  obtain ⟨b1, b2, b3, b4, b5, b6⟩ := id hB
  intro n
  induction n with
  | zero =>
    intro i hi
    obtain rfl : i = G 29 := by omega
    rw [x_m_inArea_5]
    simp (disch := omega) only [x_m_inArea_0, x_m_inArea_1, x_m_inArea_2, x_m_inArea_3, x_m_inArea_7, x_m_inArea_8, x_m_inArea_9, x_m_inArea_12, x_m_inArea_14, x_m_inArea_15, x_m_inArea_16, x_m_inArea_19, x_m_inArea_20, x_m_inArea_21, x_m_inArea_22, x_m_inArea_24, x_m_inArea_27, x_m_inArea_30, x_m_inArea_31, x_m_inArea_33, x_m_inArea_34, x_m_inArea_37, x_m_inArea_38, x_m_inArea_41, x_m_inArea_42, x_m_inArea_45, x_m_inArea_46, x_m_inArea_47, x_m_inArea_48, x_m_inArea_51, x_m_inArea_54, x_m_inArea_55, q_in, q_tn, true_and, hG, q_i2l, c_ge, q_lle, Nat.le_refl, if_true]
  | succ n ih =>
    intro i hi
    have h1 := b4 i (by omega)
    have h4 : ¬ G 29 ≤ i := by omega
    have h5 := ih (i + 1) (by omega)
    rw [x_m_inArea_5]
    simp (disch := omega) only [x_m_inArea_0, x_m_inArea_1, x_m_inArea_2, x_m_inArea_3, x_m_inArea_7, x_m_inArea_8, x_m_inArea_9, x_m_inArea_12, x_m_inArea_14, x_m_inArea_15, x_m_inArea_16, x_m_inArea_19, x_m_inArea_20, x_m_inArea_21, x_m_inArea_22, x_m_inArea_24, x_m_inArea_27, x_m_inArea_30, x_m_inArea_31, x_m_inArea_33, x_m_inArea_34, x_m_inArea_37, x_m_inArea_38, x_m_inArea_41, x_m_inArea_42, x_m_inArea_45, x_m_inArea_46, x_m_inArea_47, x_m_inArea_48, x_m_inArea_51, x_m_inArea_54, x_m_inArea_55, q_in, q_tn, true_and, hG, q_i2l, c_ge, q_lle, h4, if_false, sp_m_has, sp_m_of, XK_s, b01_eq0, q_l2i, q_eq]
    rw [inA_s] at h5
    by_cases h6 : s.testBit i = true
    · by_cases h7 : G (37 + 6 * i + 1) = a
      · simp only [h6, h7, not_true_eq_false, if_false, if_true, and_self, q_add] at h5 ⊢
        exact h5
      · simp only [h6, h7, not_true_eq_false, if_false, and_false, q_add] at h5 ⊢
        exact h5
    · have h6' : s.testBit i = false := by simpa using h6
      simp only [h6', Bool.false_eq_true, not_false_eq_true, if_true, if_false, false_and, q_add] at h5 ⊢
      exact h5
theorem sp_m_inArea {s a : Nat} (hG : ∀ k, k < 101 → jv 119 k = lN (G k)) (hB : IB G) (hs : s < 256) (ha : a < 100) : XM (d + 2) Ym_inArea [.ref 118, .int (nI s), .int (nI a)] iv jv Q = Q (some (.int (nI (inA G s a (G 29))))) (mk iv jv) := by
  simp only [e_m_inArea, x_m_inArea_0, x_m_inArea_1, x_m_inArea_2, x_m_inArea_3, x_m_inArea_7, x_m_inArea_8, x_m_inArea_9, x_m_inArea_12, x_m_inArea_14, x_m_inArea_15, x_m_inArea_16, x_m_inArea_19, x_m_inArea_20, x_m_inArea_21, x_m_inArea_22, x_m_inArea_24, x_m_inArea_27, x_m_inArea_30, x_m_inArea_31, x_m_inArea_33, x_m_inArea_34, x_m_inArea_37, x_m_inArea_38, x_m_inArea_41, x_m_inArea_42, x_m_inArea_45, x_m_inArea_46, x_m_inArea_47, x_m_inArea_48, x_m_inArea_51, x_m_inArea_54, x_m_inArea_55]
  exact lp_m_inArea hG hB hs ha (G 29) 0 (by omega)
end REF2
