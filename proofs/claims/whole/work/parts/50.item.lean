section ITEM
variable {d : Nat} {iv : mI} {jv : mJ} {Q : Option Value → mH → Prop} {q : Nat}
theorem sp_t_within (v a b : Int32) : XM (d + 1) Yt_within [.int v, .int a, .int b] iv jv Q = Q (some (.int (b01 (a ≤ v ∧ v ≤ b)))) (mk iv jv) := by
  simp only [e_t_within, x_t_within_0, x_t_within_1, x_t_within_2, x_t_within_5, x_t_within_6, x_t_within_7, x_t_within_10, x_t_within_11, x_t_within_14, x_t_within_15, z01, z11, or_true, true_or, true_and]
  by_cases h1 : a ≤ v
  · by_cases h2 : v ≤ b
    · have h1' : ¬ v < a := by rw [Int32.lt_iff_toInt_lt]; rw [Int32.le_iff_toInt_le] at h1; omega
      have h2' : ¬ b < v := by rw [Int32.lt_iff_toInt_lt]; rw [Int32.le_iff_toInt_le] at h2; omega
      simp [h1, h2, h1', h2', b01]
    · have h1' : ¬ v < a := by rw [Int32.lt_iff_toInt_lt]; rw [Int32.le_iff_toInt_le] at h1; omega
      have h2' : b < v := by rw [Int32.lt_iff_toInt_lt]; rw [Int32.le_iff_toInt_le] at h2; omega
      simp [h1, h2, h1', h2', b01]
  · have h1' : v < a := by rw [Int32.lt_iff_toInt_lt]; rw [Int32.le_iff_toInt_le] at h1; omega
    simp [h1, h1', b01]
theorem sp_within (v : Int32) {a b : Nat} (ha : a < 2147483648) (hb : b < 2147483648) : XM (d + 1) Yt_within [.int v, .int (nI a), .int (nI b)] iv jv Q = Q (some (.int (b01 ((a : Int) ≤ v.toInt ∧ v.toInt ≤ (b : Int))))) (mk iv jv) := by
  rw [sp_t_within, b01_congr (e := (a : Int) ≤ v.toInt ∧ v.toInt ≤ (b : Int))]
  rw [t_ge v ha, t_le v hb]
theorem sp_withinN {v a b : Nat} (hv : v < 2147483648) (ha : a < 2147483648) (hb : b < 2147483648) : XM (d + 1) Yt_within [.int (nI v), .int (nI a), .int (nI b)] iv jv Q = Q (some (.int (b01 (a ≤ v ∧ v ≤ b)))) (mk iv jv) := by
  rw [sp_t_within, b01_congr (e := a ≤ v ∧ v ≤ b)]
  rw [q_le ha hv, q_le hv hb]
theorem sp_t_isLevel (x : Int32) : XM (d + 2) Yt_isLevel [.int x] iv jv Q = Q (some (.int (b01 (((0 : Nat) : Int) ≤ x.toInt ∧ x.toInt ≤ ((8 : Nat) : Int))))) (mk iv jv) := by
  simp (disch := first | assumption | omega) only [e_t_isLevel, x_t_isLevel_0, x_t_isLevel_1, x_t_isLevel_2, x_t_isLevel_4, x_t_isLevel_7, sp_within, XK_s, b01_ok, true_and]
theorem sp_t_isArea (x : Int32) : XM (d + 2) Yt_isArea [.int x] iv jv Q = Q (some (.int (b01 (((0 : Nat) : Int) ≤ x.toInt ∧ x.toInt ≤ ((2 : Nat) : Int))))) (mk iv jv) := by
  simp (disch := first | assumption | omega) only [e_t_isArea, x_t_isArea_0, x_t_isArea_1, x_t_isArea_2, x_t_isArea_3, x_t_isArea_6, sp_within, XK_s, b01_ok, true_and]
theorem sp_t_isKind (x : Int32) : XM (d + 2) Yt_isKind [.int x] iv jv Q = Q (some (.int (b01 (((0 : Nat) : Int) ≤ x.toInt ∧ x.toInt ≤ ((5 : Nat) : Int))))) (mk iv jv) := by
  simp (disch := first | assumption | omega) only [e_t_isKind, x_t_isKind_0, x_t_isKind_1, x_t_isKind_2, x_t_isKind_3, x_t_isKind_6, sp_within, XK_s, b01_ok, true_and]
theorem sp_t_isSheet (x : Int32) : XM (d + 2) Yt_isSheet [.int x] iv jv Q = Q (some (.int (b01 (((0 : Nat) : Int) ≤ x.toInt ∧ x.toInt ≤ ((3 : Nat) : Int))))) (mk iv jv) := by
  simp (disch := first | assumption | omega) only [e_t_isSheet, x_t_isSheet_0, x_t_isSheet_1, x_t_isSheet_2, x_t_isSheet_3, x_t_isSheet_6, sp_within, XK_s, b01_ok, true_and]
theorem sp_t_isSort (x : Int32) : XM (d + 1) Yt_isSort [.int x] iv jv Q = Q (some (.int (b01 (x = nI 0 ∨ x = nI 1)))) (mk iv jv) := by
  simp (disch := first | assumption | omega) only [e_t_isSort, x_t_isSort_0, x_t_isSort_1, x_t_isSort_4, x_t_isSort_5, x_t_isSort_6, x_t_isSort_9, x_t_isSort_10, x_t_isSort_13, x_t_isSort_14, z01, z11, or_true, true_or, true_and]
  by_cases h1 : x = nI 0
  · simp [h1, b01]
  · by_cases h2 : x = nI 1
    · simp [h2, n10, b01]
    · simp [h1, h2, b01]
theorem sp_t_stir (z : Int32) : XM (d + 1) Yt_stir [.int z] iv jv Q = Q (some (.int (stz z))) (mk iv jv) := by
  simp (disch := first | assumption | omega) only [e_t_stir, x_t_stir_0, x_t_stir_1, x_t_stir_4, x_t_stir_5, x_t_stir_8, x_t_stir_9]
  rfl
theorem b01_and {a b : Prop} [Decidable a] [Decidable b] : True := trivial
/-! an ITEM -/
theorem sp_i_rightAs {k h s l : Nat} (hq : shp q = (2, 10)) (h2 : iv q 2 = nI h) (h3 : iv q 3 = nI s) (hk : k < 6) (hh : h < 9) (hs : s < 4) (hl : l < 9) : XM (d + 1) Yi_rightAs [.ref q, .int (nI k), .int (nI l)] iv jv Q = Q (some (.int (nI (rightN k h s l)))) (mk iv jv) := by
  match k, hk with
  | 0, _ =>
    simp (disch := decide) only [e_i_rightAs, x_i_rightAs_0, x_i_rightAs_2, x_i_rightAs_3, x_i_rightAs_5, x_i_rightAs_6, x_i_rightAs_7, x_i_rightAs_10, x_i_rightAs_11, x_i_rightAs_12, x_i_rightAs_13, x_i_rightAs_16, x_i_rightAs_17, x_i_rightAs_18, x_i_rightAs_19, x_i_rightAs_22, x_i_rightAs_25, x_i_rightAs_26, x_i_rightAs_27_1, x_i_rightAs_27_2, x_i_rightAs_27_3, x_i_rightAs_27_4, x_i_rightAs_27_5, x_i_rightAs_60, x_i_rightAs_61, x_i_rightAs_62, x_i_rightAs_65, x_i_rightAs_66, x_i_rightAs_68, x_i_rightAs_69, x_i_rightAs_72, x_i_rightAs_73, x_i_rightAs_75, x_i_rightAs_76, x_i_rightAs_77, x_i_rightAs_80, x_i_rightAs_83, x_i_rightAs_84, x_i_rightAs_85, x_i_rightAs_87, x_i_rightAs_88, x_i_rightAs_91, x_i_rightAs_92, x_i_rightAs_93, x_i_rightAs_96, x_i_rightAs_97, x_i_rightAs_99, x_i_rightAs_100, x_i_rightAs_101, hq, true_and, h2, h3]
    rw [x_i_rightAs_27_d (by decide)]
    simp (disch := decide) only [x_i_rightAs_0, x_i_rightAs_2, x_i_rightAs_3, x_i_rightAs_5, x_i_rightAs_6, x_i_rightAs_7, x_i_rightAs_10, x_i_rightAs_11, x_i_rightAs_12, x_i_rightAs_13, x_i_rightAs_16, x_i_rightAs_17, x_i_rightAs_18, x_i_rightAs_19, x_i_rightAs_22, x_i_rightAs_25, x_i_rightAs_26, x_i_rightAs_27_1, x_i_rightAs_27_2, x_i_rightAs_27_3, x_i_rightAs_27_4, x_i_rightAs_27_5, x_i_rightAs_60, x_i_rightAs_61, x_i_rightAs_62, x_i_rightAs_65, x_i_rightAs_66, x_i_rightAs_68, x_i_rightAs_69, x_i_rightAs_72, x_i_rightAs_73, x_i_rightAs_75, x_i_rightAs_76, x_i_rightAs_77, x_i_rightAs_80, x_i_rightAs_83, x_i_rightAs_84, x_i_rightAs_85, x_i_rightAs_87, x_i_rightAs_88, x_i_rightAs_91, x_i_rightAs_92, x_i_rightAs_93, x_i_rightAs_96, x_i_rightAs_97, x_i_rightAs_99, x_i_rightAs_100, x_i_rightAs_101]
    refine congrArg (fun z => Q (some (.int z)) (mk iv jv)) ?_
    clear h2 h3; revert l; revert s; revert h; decide +kernel
  | 1, _ =>
    simp only [e_i_rightAs, x_i_rightAs_0, x_i_rightAs_2, x_i_rightAs_3, x_i_rightAs_5, x_i_rightAs_6, x_i_rightAs_7, x_i_rightAs_10, x_i_rightAs_11, x_i_rightAs_12, x_i_rightAs_13, x_i_rightAs_16, x_i_rightAs_17, x_i_rightAs_18, x_i_rightAs_19, x_i_rightAs_22, x_i_rightAs_25, x_i_rightAs_26, x_i_rightAs_27_1, x_i_rightAs_27_2, x_i_rightAs_27_3, x_i_rightAs_27_4, x_i_rightAs_27_5, x_i_rightAs_60, x_i_rightAs_61, x_i_rightAs_62, x_i_rightAs_65, x_i_rightAs_66, x_i_rightAs_68, x_i_rightAs_69, x_i_rightAs_72, x_i_rightAs_73, x_i_rightAs_75, x_i_rightAs_76, x_i_rightAs_77, x_i_rightAs_80, x_i_rightAs_83, x_i_rightAs_84, x_i_rightAs_85, x_i_rightAs_87, x_i_rightAs_88, x_i_rightAs_91, x_i_rightAs_92, x_i_rightAs_93, x_i_rightAs_96, x_i_rightAs_97, x_i_rightAs_99, x_i_rightAs_100, x_i_rightAs_101, hq, true_and, h2, h3]
    refine congrArg (fun z => Q (some (.int z)) (mk iv jv)) ?_
    clear h2 h3; revert l; revert s; revert h; decide +kernel
  | 2, _ =>
    simp only [e_i_rightAs, x_i_rightAs_0, x_i_rightAs_2, x_i_rightAs_3, x_i_rightAs_5, x_i_rightAs_6, x_i_rightAs_7, x_i_rightAs_10, x_i_rightAs_11, x_i_rightAs_12, x_i_rightAs_13, x_i_rightAs_16, x_i_rightAs_17, x_i_rightAs_18, x_i_rightAs_19, x_i_rightAs_22, x_i_rightAs_25, x_i_rightAs_26, x_i_rightAs_27_1, x_i_rightAs_27_2, x_i_rightAs_27_3, x_i_rightAs_27_4, x_i_rightAs_27_5, x_i_rightAs_60, x_i_rightAs_61, x_i_rightAs_62, x_i_rightAs_65, x_i_rightAs_66, x_i_rightAs_68, x_i_rightAs_69, x_i_rightAs_72, x_i_rightAs_73, x_i_rightAs_75, x_i_rightAs_76, x_i_rightAs_77, x_i_rightAs_80, x_i_rightAs_83, x_i_rightAs_84, x_i_rightAs_85, x_i_rightAs_87, x_i_rightAs_88, x_i_rightAs_91, x_i_rightAs_92, x_i_rightAs_93, x_i_rightAs_96, x_i_rightAs_97, x_i_rightAs_99, x_i_rightAs_100, x_i_rightAs_101, hq, true_and, h2, h3]
    refine congrArg (fun z => Q (some (.int z)) (mk iv jv)) ?_
    clear h2 h3; revert l; revert s; revert h; decide +kernel
  | 3, _ =>
    simp only [e_i_rightAs, x_i_rightAs_0, x_i_rightAs_2, x_i_rightAs_3, x_i_rightAs_5, x_i_rightAs_6, x_i_rightAs_7, x_i_rightAs_10, x_i_rightAs_11, x_i_rightAs_12, x_i_rightAs_13, x_i_rightAs_16, x_i_rightAs_17, x_i_rightAs_18, x_i_rightAs_19, x_i_rightAs_22, x_i_rightAs_25, x_i_rightAs_26, x_i_rightAs_27_1, x_i_rightAs_27_2, x_i_rightAs_27_3, x_i_rightAs_27_4, x_i_rightAs_27_5, x_i_rightAs_60, x_i_rightAs_61, x_i_rightAs_62, x_i_rightAs_65, x_i_rightAs_66, x_i_rightAs_68, x_i_rightAs_69, x_i_rightAs_72, x_i_rightAs_73, x_i_rightAs_75, x_i_rightAs_76, x_i_rightAs_77, x_i_rightAs_80, x_i_rightAs_83, x_i_rightAs_84, x_i_rightAs_85, x_i_rightAs_87, x_i_rightAs_88, x_i_rightAs_91, x_i_rightAs_92, x_i_rightAs_93, x_i_rightAs_96, x_i_rightAs_97, x_i_rightAs_99, x_i_rightAs_100, x_i_rightAs_101, hq, true_and, h2, h3]
    refine congrArg (fun z => Q (some (.int z)) (mk iv jv)) ?_
    clear h2 h3; revert l; revert s; revert h; decide +kernel
  | 4, _ =>
    have h4 : (¬ nI 2 = 0) = True := by simp; decide
    simp only [e_i_rightAs, x_i_rightAs_0, x_i_rightAs_2, x_i_rightAs_3, x_i_rightAs_5, x_i_rightAs_6, x_i_rightAs_7, x_i_rightAs_10, x_i_rightAs_11, x_i_rightAs_12, x_i_rightAs_13, x_i_rightAs_16, x_i_rightAs_17, x_i_rightAs_18, x_i_rightAs_19, x_i_rightAs_22, x_i_rightAs_25, x_i_rightAs_26, x_i_rightAs_27_1, x_i_rightAs_27_2, x_i_rightAs_27_3, x_i_rightAs_27_4, x_i_rightAs_27_5, x_i_rightAs_60, x_i_rightAs_61, x_i_rightAs_62, x_i_rightAs_65, x_i_rightAs_66, x_i_rightAs_68, x_i_rightAs_69, x_i_rightAs_72, x_i_rightAs_73, x_i_rightAs_75, x_i_rightAs_76, x_i_rightAs_77, x_i_rightAs_80, x_i_rightAs_83, x_i_rightAs_84, x_i_rightAs_85, x_i_rightAs_87, x_i_rightAs_88, x_i_rightAs_91, x_i_rightAs_92, x_i_rightAs_93, x_i_rightAs_96, x_i_rightAs_97, x_i_rightAs_99, x_i_rightAs_100, x_i_rightAs_101, hq, true_and, h2, h3, h4]
    refine congrArg (fun z => Q (some (.int z)) (mk iv jv)) ?_
    clear h2 h3 h4; revert l; revert s; revert h; decide +kernel
  | 5, _ =>
    simp only [e_i_rightAs, x_i_rightAs_0, x_i_rightAs_2, x_i_rightAs_3, x_i_rightAs_5, x_i_rightAs_6, x_i_rightAs_7, x_i_rightAs_10, x_i_rightAs_11, x_i_rightAs_12, x_i_rightAs_13, x_i_rightAs_16, x_i_rightAs_17, x_i_rightAs_18, x_i_rightAs_19, x_i_rightAs_22, x_i_rightAs_25, x_i_rightAs_26, x_i_rightAs_27_1, x_i_rightAs_27_2, x_i_rightAs_27_3, x_i_rightAs_27_4, x_i_rightAs_27_5, x_i_rightAs_60, x_i_rightAs_61, x_i_rightAs_62, x_i_rightAs_65, x_i_rightAs_66, x_i_rightAs_68, x_i_rightAs_69, x_i_rightAs_72, x_i_rightAs_73, x_i_rightAs_75, x_i_rightAs_76, x_i_rightAs_77, x_i_rightAs_80, x_i_rightAs_83, x_i_rightAs_84, x_i_rightAs_85, x_i_rightAs_87, x_i_rightAs_88, x_i_rightAs_91, x_i_rightAs_92, x_i_rightAs_93, x_i_rightAs_96, x_i_rightAs_97, x_i_rightAs_99, x_i_rightAs_100, x_i_rightAs_101, hq, true_and, h2, h3]
    refine congrArg (fun z => Q (some (.int z)) (mk iv jv)) ?_
    clear h2 h3; revert l; revert s; revert h; decide +kernel
theorem sp_i_tellsOf {k s r : Nat} (hq : shp q = (2, 10)) (h0 : iv q 0 = nI k) (h3 : iv q 3 = nI s) (hk : k < 6) (hs : s < 4) (hr : r < 16) : XM (d + 1) Yi_tellsOf [.ref q, .int (nI r)] iv jv Q = Q (some (.int (nI (tellsN k s r)))) (mk iv jv) := by
  match k, hk with
  | 0, _ =>
    simp (disch := decide) only [e_i_tellsOf, x_i_tellsOf_0, x_i_tellsOf_1, x_i_tellsOf_4, x_i_tellsOf_5, x_i_tellsOf_8, x_i_tellsOf_9, x_i_tellsOf_10, x_i_tellsOf_11, x_i_tellsOf_13, x_i_tellsOf_14, x_i_tellsOf_15, x_i_tellsOf_16, x_i_tellsOf_17, x_i_tellsOf_18, x_i_tellsOf_21_1, x_i_tellsOf_21_2, x_i_tellsOf_21_3, x_i_tellsOf_21_4, x_i_tellsOf_21_5, x_i_tellsOf_56, x_i_tellsOf_57, x_i_tellsOf_58, x_i_tellsOf_60, x_i_tellsOf_61, x_i_tellsOf_64, x_i_tellsOf_65, x_i_tellsOf_66, x_i_tellsOf_67, x_i_tellsOf_69, x_i_tellsOf_70, x_i_tellsOf_73, x_i_tellsOf_75, x_i_tellsOf_76, x_i_tellsOf_77, x_i_tellsOf_78, x_i_tellsOf_79, x_i_tellsOf_80, x_i_tellsOf_81, x_i_tellsOf_82, x_i_tellsOf_83, x_i_tellsOf_84, hq, true_and, h0, h3]
    rw [x_i_tellsOf_21_d (by decide)]
    simp (disch := decide) only [x_i_tellsOf_0, x_i_tellsOf_1, x_i_tellsOf_4, x_i_tellsOf_5, x_i_tellsOf_8, x_i_tellsOf_9, x_i_tellsOf_10, x_i_tellsOf_11, x_i_tellsOf_13, x_i_tellsOf_14, x_i_tellsOf_15, x_i_tellsOf_16, x_i_tellsOf_17, x_i_tellsOf_18, x_i_tellsOf_21_1, x_i_tellsOf_21_2, x_i_tellsOf_21_3, x_i_tellsOf_21_4, x_i_tellsOf_21_5, x_i_tellsOf_56, x_i_tellsOf_57, x_i_tellsOf_58, x_i_tellsOf_60, x_i_tellsOf_61, x_i_tellsOf_64, x_i_tellsOf_65, x_i_tellsOf_66, x_i_tellsOf_67, x_i_tellsOf_69, x_i_tellsOf_70, x_i_tellsOf_73, x_i_tellsOf_75, x_i_tellsOf_76, x_i_tellsOf_77, x_i_tellsOf_78, x_i_tellsOf_79, x_i_tellsOf_80, x_i_tellsOf_81, x_i_tellsOf_82, x_i_tellsOf_83, x_i_tellsOf_84]
    refine congrArg (fun z => Q (some (.int z)) (mk iv jv)) ?_
    clear h0 h3; revert r; revert s; decide +kernel
  | 1, _ =>
    simp only [e_i_tellsOf, x_i_tellsOf_0, x_i_tellsOf_1, x_i_tellsOf_4, x_i_tellsOf_5, x_i_tellsOf_8, x_i_tellsOf_9, x_i_tellsOf_10, x_i_tellsOf_11, x_i_tellsOf_13, x_i_tellsOf_14, x_i_tellsOf_15, x_i_tellsOf_16, x_i_tellsOf_17, x_i_tellsOf_18, x_i_tellsOf_21_1, x_i_tellsOf_21_2, x_i_tellsOf_21_3, x_i_tellsOf_21_4, x_i_tellsOf_21_5, x_i_tellsOf_56, x_i_tellsOf_57, x_i_tellsOf_58, x_i_tellsOf_60, x_i_tellsOf_61, x_i_tellsOf_64, x_i_tellsOf_65, x_i_tellsOf_66, x_i_tellsOf_67, x_i_tellsOf_69, x_i_tellsOf_70, x_i_tellsOf_73, x_i_tellsOf_75, x_i_tellsOf_76, x_i_tellsOf_77, x_i_tellsOf_78, x_i_tellsOf_79, x_i_tellsOf_80, x_i_tellsOf_81, x_i_tellsOf_82, x_i_tellsOf_83, x_i_tellsOf_84, hq, true_and, h0, h3]
    refine congrArg (fun z => Q (some (.int z)) (mk iv jv)) ?_
    clear h0 h3; revert r; revert s; decide +kernel
  | 2, _ =>
    simp only [e_i_tellsOf, x_i_tellsOf_0, x_i_tellsOf_1, x_i_tellsOf_4, x_i_tellsOf_5, x_i_tellsOf_8, x_i_tellsOf_9, x_i_tellsOf_10, x_i_tellsOf_11, x_i_tellsOf_13, x_i_tellsOf_14, x_i_tellsOf_15, x_i_tellsOf_16, x_i_tellsOf_17, x_i_tellsOf_18, x_i_tellsOf_21_1, x_i_tellsOf_21_2, x_i_tellsOf_21_3, x_i_tellsOf_21_4, x_i_tellsOf_21_5, x_i_tellsOf_56, x_i_tellsOf_57, x_i_tellsOf_58, x_i_tellsOf_60, x_i_tellsOf_61, x_i_tellsOf_64, x_i_tellsOf_65, x_i_tellsOf_66, x_i_tellsOf_67, x_i_tellsOf_69, x_i_tellsOf_70, x_i_tellsOf_73, x_i_tellsOf_75, x_i_tellsOf_76, x_i_tellsOf_77, x_i_tellsOf_78, x_i_tellsOf_79, x_i_tellsOf_80, x_i_tellsOf_81, x_i_tellsOf_82, x_i_tellsOf_83, x_i_tellsOf_84, hq, true_and, h0, h3]
    refine congrArg (fun z => Q (some (.int z)) (mk iv jv)) ?_
    clear h0 h3; revert r; revert s; decide +kernel
  | 3, _ =>
    simp only [e_i_tellsOf, x_i_tellsOf_0, x_i_tellsOf_1, x_i_tellsOf_4, x_i_tellsOf_5, x_i_tellsOf_8, x_i_tellsOf_9, x_i_tellsOf_10, x_i_tellsOf_11, x_i_tellsOf_13, x_i_tellsOf_14, x_i_tellsOf_15, x_i_tellsOf_16, x_i_tellsOf_17, x_i_tellsOf_18, x_i_tellsOf_21_1, x_i_tellsOf_21_2, x_i_tellsOf_21_3, x_i_tellsOf_21_4, x_i_tellsOf_21_5, x_i_tellsOf_56, x_i_tellsOf_57, x_i_tellsOf_58, x_i_tellsOf_60, x_i_tellsOf_61, x_i_tellsOf_64, x_i_tellsOf_65, x_i_tellsOf_66, x_i_tellsOf_67, x_i_tellsOf_69, x_i_tellsOf_70, x_i_tellsOf_73, x_i_tellsOf_75, x_i_tellsOf_76, x_i_tellsOf_77, x_i_tellsOf_78, x_i_tellsOf_79, x_i_tellsOf_80, x_i_tellsOf_81, x_i_tellsOf_82, x_i_tellsOf_83, x_i_tellsOf_84, hq, true_and, h0, h3]
    refine congrArg (fun z => Q (some (.int z)) (mk iv jv)) ?_
    clear h0 h3; revert r; revert s; decide +kernel
  | 4, _ =>
    have h4 : (¬ nI 2 = 0) = True := by simp; decide
    simp only [e_i_tellsOf, x_i_tellsOf_0, x_i_tellsOf_1, x_i_tellsOf_4, x_i_tellsOf_5, x_i_tellsOf_8, x_i_tellsOf_9, x_i_tellsOf_10, x_i_tellsOf_11, x_i_tellsOf_13, x_i_tellsOf_14, x_i_tellsOf_15, x_i_tellsOf_16, x_i_tellsOf_17, x_i_tellsOf_18, x_i_tellsOf_21_1, x_i_tellsOf_21_2, x_i_tellsOf_21_3, x_i_tellsOf_21_4, x_i_tellsOf_21_5, x_i_tellsOf_56, x_i_tellsOf_57, x_i_tellsOf_58, x_i_tellsOf_60, x_i_tellsOf_61, x_i_tellsOf_64, x_i_tellsOf_65, x_i_tellsOf_66, x_i_tellsOf_67, x_i_tellsOf_69, x_i_tellsOf_70, x_i_tellsOf_73, x_i_tellsOf_75, x_i_tellsOf_76, x_i_tellsOf_77, x_i_tellsOf_78, x_i_tellsOf_79, x_i_tellsOf_80, x_i_tellsOf_81, x_i_tellsOf_82, x_i_tellsOf_83, x_i_tellsOf_84, hq, true_and, h0, h3, h4]
    refine congrArg (fun z => Q (some (.int z)) (mk iv jv)) ?_
    clear h0 h3 h4; revert r; revert s; decide +kernel
  | 5, _ =>
    simp only [e_i_tellsOf, x_i_tellsOf_0, x_i_tellsOf_1, x_i_tellsOf_4, x_i_tellsOf_5, x_i_tellsOf_8, x_i_tellsOf_9, x_i_tellsOf_10, x_i_tellsOf_11, x_i_tellsOf_13, x_i_tellsOf_14, x_i_tellsOf_15, x_i_tellsOf_16, x_i_tellsOf_17, x_i_tellsOf_18, x_i_tellsOf_21_1, x_i_tellsOf_21_2, x_i_tellsOf_21_3, x_i_tellsOf_21_4, x_i_tellsOf_21_5, x_i_tellsOf_56, x_i_tellsOf_57, x_i_tellsOf_58, x_i_tellsOf_60, x_i_tellsOf_61, x_i_tellsOf_64, x_i_tellsOf_65, x_i_tellsOf_66, x_i_tellsOf_67, x_i_tellsOf_69, x_i_tellsOf_70, x_i_tellsOf_73, x_i_tellsOf_75, x_i_tellsOf_76, x_i_tellsOf_77, x_i_tellsOf_78, x_i_tellsOf_79, x_i_tellsOf_80, x_i_tellsOf_81, x_i_tellsOf_82, x_i_tellsOf_83, x_i_tellsOf_84, hq, true_and, h0, h3]
    refine congrArg (fun z => Q (some (.int z)) (mk iv jv)) ?_
    clear h0 h3; revert r; revert s; decide +kernel
end ITEM
