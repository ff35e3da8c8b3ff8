section MUT1
variable {d : Nat} {iv : mI} {jv : mJ} {Q : Option Value → mH → Prop} {G : Nat → Nat} {f : Nat → Nat}
theorem toI_eq (x : Int32) {k : Nat} (hk : k < 2147483648) : (x = nI k) = (x.toInt = (k : Int)) := by
  apply propext
  rw [← Int32.toInt_inj, nI_toI hk]
/-! prior -/
def oth (G : Nat → Nat) (l : Nat) : Nat → Nat
  | 0 => 0
  | n + 1 => oth G l n + if n = l then 0 else G n
theorem oth_s (G : Nat → Nat) (l n : Nat) : oth G l (n + 1) = oth G l n + if n = l then 0 else G n := rfl
theorem oth_le {G : Nat → Nat} (h : ∀ l, l < 18 → G l ≤ 2000000000) (l : Nat) : ∀ n, n ≤ 9 → oth G l n ≤ 2000000000 * n
  | 0, _ => Nat.le_refl _
  | n + 1, hn => by
    have h1 := oth_le h l n (by omega)
    have h2 := h n (by omega)
    rw [oth_s]
    split <;> omega
theorem lp_m_prior {l v : Nat} (hl : l < 9) (hG : ∀ k, k < 101 → jv 119 k = lN (G k)) (hB : IB G) : ∀ n k, k + n = 9 → XT d Ym_prior 27 [.ref 118, .int (nI l), .int (nI v), .long (lN (oth G l k)), mW, .int (nI k)] [] iv jv Q = XT d Ym_prior 27 [.ref 118, .int (nI l), .int (nI v), .long (lN (oth G l 9)), mW, .int (nI 9)] [] iv jv Q := by
  have b6 := hB.2.2.2.2.2.1
  intro n
  induction n with
  | zero =>
    intro k hk
    obtain rfl : k = 9 := by omega
    rfl
  | succ n ih =>
    intro k hk
    have h4 : ¬ 9 ≤ k := by omega
    have h8 := ih (k + 1) (by omega)
    have g := hG k (by omega)
    have e0 : 0 + k = k := Nat.zero_add k
    rw [oth_s] at h8
    rw [x_m_prior_27]
    simp (disch := omega) only [x_m_prior_0, x_m_prior_1, x_m_prior_4, x_m_prior_7, x_m_prior_8, x_m_prior_9, x_m_prior_10, x_m_prior_13, x_m_prior_16, x_m_prior_19, x_m_prior_21, x_m_prior_22, x_m_prior_23, x_m_prior_24, x_m_prior_25, x_m_prior_29, x_m_prior_31, x_m_prior_34, x_m_prior_35, x_m_prior_37, x_m_prior_38, x_m_prior_41, x_m_prior_42, x_m_prior_45, x_m_prior_46, x_m_prior_49, x_m_prior_50, x_m_prior_52, x_m_prior_53, x_m_prior_54, x_m_prior_55, x_m_prior_56, x_m_prior_59, x_m_prior_62, x_m_prior_63, x_m_prior_66, x_m_prior_67, x_m_prior_68, x_m_prior_69, x_m_prior_72, x_m_prior_74, x_m_prior_75, x_m_prior_76, x_m_prior_77, x_m_prior_78, x_m_prior_79, x_m_prior_82, x_m_prior_84, x_m_prior_85, x_m_prior_88, x_m_prior_89, x_m_prior_90, x_m_prior_91, x_m_prior_92, x_m_prior_93, x_m_prior_94, x_m_prior_96, q_le, h4, if_false, q_eq]
    by_cases h : k = l
    · rw [if_pos h] at h8
      simp (disch := omega) only [h, if_true, q_ladd, q_add] at h8 ⊢
      exact h8
    · rw [if_neg h] at h8
      simp (disch := omega) only [h, if_false, q_add, e0, q_in, q_tn, true_and, g, q_ladd]
      exact h8
def isPv (x y : Int32) : Prop := (0 ≤ x.toInt ∧ x.toInt ≤ (8 : Nat)) ∧ 0 ≤ y.toInt ∧ y.toInt ≤ 2000000000
theorem sp_m_prior_bad {x y : Int32} (h : ¬ isPv x y) : XM (d + 3) Ym_prior [.ref 118, .int x, .int y] iv jv Q = Q (some (.int (-2))) (mk iv jv) := by
  unfold isPv at h
  by_cases p1 : 0 ≤ x.toInt ∧ x.toInt ≤ ((8 : Nat) : Int) <;> by_cases p2 : ((0 : Nat) : Int) ≤ y.toInt ∧ y.toInt ≤ ((2000000000 : Nat) : Int) <;>
  first
  | (exfalso; omega)
  | (simp (disch := first | assumption | omega) only [e_m_prior, x_m_prior_0, x_m_prior_1, x_m_prior_4, x_m_prior_7, x_m_prior_8, x_m_prior_9, x_m_prior_10, x_m_prior_13, x_m_prior_16, x_m_prior_19, x_m_prior_21, x_m_prior_22, x_m_prior_23, x_m_prior_24, x_m_prior_25, x_m_prior_29, x_m_prior_31, x_m_prior_34, x_m_prior_35, x_m_prior_37, x_m_prior_38, x_m_prior_41, x_m_prior_42, x_m_prior_45, x_m_prior_46, x_m_prior_49, x_m_prior_50, x_m_prior_52, x_m_prior_53, x_m_prior_54, x_m_prior_55, x_m_prior_56, x_m_prior_59, x_m_prior_62, x_m_prior_63, x_m_prior_66, x_m_prior_67, x_m_prior_68, x_m_prior_69, x_m_prior_72, x_m_prior_74, x_m_prior_75, x_m_prior_76, x_m_prior_77, x_m_prior_78, x_m_prior_79, x_m_prior_82, x_m_prior_84, x_m_prior_85, x_m_prior_88, x_m_prior_89, x_m_prior_90, x_m_prior_91, x_m_prior_92, x_m_prior_93, x_m_prior_94, x_m_prior_96, sp_isInI, sp_m_isLevel, XK_s, b01_eq0, p1, p2, not_false_eq_true, not_true_eq_false, if_true, if_false, and_self])
theorem sp_m_prior {l v : Nat} (hl : l < 9) (hv : v ≤ 2000000000) (hG : ∀ k, k < 101 → jv 119 k = lN (G k)) (hB : IB G) : XM (d + 3) Ym_prior [.ref 118, .int (nI l), .int (nI v)] iv jv Q = if v = 0 ∧ oth G l 9 = 0 then Q (some (.int (-3))) (mk iv jv) else Q (some (.int (nI (G l)))) (mk iv (upj jv 119 l (lN v))) := by
  have hl8 : l ≤ 8 := by omega
  have h1 := oth_le hB.2.2.2.2.2.1 l 9 (by omega)
  have g := hG l (by omega)
  have e0 : 0 + l = l := Nat.zero_add l
  simp (disch := first | assumption | omega) only [e_m_prior, x_m_prior_0, x_m_prior_1, x_m_prior_4, x_m_prior_7, x_m_prior_8, x_m_prior_9, x_m_prior_10, x_m_prior_13, x_m_prior_16, x_m_prior_19, x_m_prior_21, x_m_prior_22, x_m_prior_23, x_m_prior_24, x_m_prior_25, x_m_prior_29, x_m_prior_31, x_m_prior_34, x_m_prior_35, x_m_prior_37, x_m_prior_38, x_m_prior_41, x_m_prior_42, x_m_prior_45, x_m_prior_46, x_m_prior_49, x_m_prior_50, x_m_prior_52, x_m_prior_53, x_m_prior_54, x_m_prior_55, x_m_prior_56, x_m_prior_59, x_m_prior_62, x_m_prior_63, x_m_prior_66, x_m_prior_67, x_m_prior_68, x_m_prior_69, x_m_prior_72, x_m_prior_74, x_m_prior_75, x_m_prior_76, x_m_prior_77, x_m_prior_78, x_m_prior_79, x_m_prior_82, x_m_prior_84, x_m_prior_85, x_m_prior_88, x_m_prior_89, x_m_prior_90, x_m_prior_91, x_m_prior_92, x_m_prior_93, x_m_prior_94, x_m_prior_96, sp_isLevelN, q_i2l, sp_isInN, XK_s, b01_eq0, hl8, hv, Nat.zero_le, true_and, not_true_eq_false, if_false]
  refine (lp_m_prior hl hG hB 9 0 (by omega)).trans ?_
  rw [x_m_prior_27]
  by_cases h0 : v = 0
  · by_cases h2 : oth G l 9 = 0
    · simp (disch := first | assumption | omega) only [x_m_prior_0, x_m_prior_1, x_m_prior_4, x_m_prior_7, x_m_prior_8, x_m_prior_9, x_m_prior_10, x_m_prior_13, x_m_prior_16, x_m_prior_19, x_m_prior_21, x_m_prior_22, x_m_prior_23, x_m_prior_24, x_m_prior_25, x_m_prior_29, x_m_prior_31, x_m_prior_34, x_m_prior_35, x_m_prior_37, x_m_prior_38, x_m_prior_41, x_m_prior_42, x_m_prior_45, x_m_prior_46, x_m_prior_49, x_m_prior_50, x_m_prior_52, x_m_prior_53, x_m_prior_54, x_m_prior_55, x_m_prior_56, x_m_prior_59, x_m_prior_62, x_m_prior_63, x_m_prior_66, x_m_prior_67, x_m_prior_68, x_m_prior_69, x_m_prior_72, x_m_prior_74, x_m_prior_75, x_m_prior_76, x_m_prior_77, x_m_prior_78, x_m_prior_79, x_m_prior_82, x_m_prior_84, x_m_prior_85, x_m_prior_88, x_m_prior_89, x_m_prior_90, x_m_prior_91, x_m_prior_92, x_m_prior_93, x_m_prior_94, x_m_prior_96, q_le, Nat.le_refl, qn0, h0, h2, if_true, c_eq, q_leq, and_self]
    · simp (disch := first | assumption | omega) only [x_m_prior_0, x_m_prior_1, x_m_prior_4, x_m_prior_7, x_m_prior_8, x_m_prior_9, x_m_prior_10, x_m_prior_13, x_m_prior_16, x_m_prior_19, x_m_prior_21, x_m_prior_22, x_m_prior_23, x_m_prior_24, x_m_prior_25, x_m_prior_29, x_m_prior_31, x_m_prior_34, x_m_prior_35, x_m_prior_37, x_m_prior_38, x_m_prior_41, x_m_prior_42, x_m_prior_45, x_m_prior_46, x_m_prior_49, x_m_prior_50, x_m_prior_52, x_m_prior_53, x_m_prior_54, x_m_prior_55, x_m_prior_56, x_m_prior_59, x_m_prior_62, x_m_prior_63, x_m_prior_66, x_m_prior_67, x_m_prior_68, x_m_prior_69, x_m_prior_72, x_m_prior_74, x_m_prior_75, x_m_prior_76, x_m_prior_77, x_m_prior_78, x_m_prior_79, x_m_prior_82, x_m_prior_84, x_m_prior_85, x_m_prior_88, x_m_prior_89, x_m_prior_90, x_m_prior_91, x_m_prior_92, x_m_prior_93, x_m_prior_94, x_m_prior_96, q_le, Nat.le_refl, qn0, h0, h2, if_true, if_false, c_eq, q_leq, and_false, e0, sp_m_get, g, XK_s, q_l2i, q_add, q_i2l, q_in, q_tn, true_and]
  · simp (disch := first | assumption | omega) only [x_m_prior_0, x_m_prior_1, x_m_prior_4, x_m_prior_7, x_m_prior_8, x_m_prior_9, x_m_prior_10, x_m_prior_13, x_m_prior_16, x_m_prior_19, x_m_prior_21, x_m_prior_22, x_m_prior_23, x_m_prior_24, x_m_prior_25, x_m_prior_29, x_m_prior_31, x_m_prior_34, x_m_prior_35, x_m_prior_37, x_m_prior_38, x_m_prior_41, x_m_prior_42, x_m_prior_45, x_m_prior_46, x_m_prior_49, x_m_prior_50, x_m_prior_52, x_m_prior_53, x_m_prior_54, x_m_prior_55, x_m_prior_56, x_m_prior_59, x_m_prior_62, x_m_prior_63, x_m_prior_66, x_m_prior_67, x_m_prior_68, x_m_prior_69, x_m_prior_72, x_m_prior_74, x_m_prior_75, x_m_prior_76, x_m_prior_77, x_m_prior_78, x_m_prior_79, x_m_prior_82, x_m_prior_84, x_m_prior_85, x_m_prior_88, x_m_prior_89, x_m_prior_90, x_m_prior_91, x_m_prior_92, x_m_prior_93, x_m_prior_94, x_m_prior_96, q_le, Nat.le_refl, qn0, h0, if_true, if_false, c_eq, q_leq, false_and, e0, sp_m_get, g, XK_s, q_l2i, q_add, q_i2l, q_in, q_tn, true_and]
/-! quota -/
def isQ (x y z : Int32) : Prop := (0 ≤ x.toInt ∧ x.toInt ≤ (2 : Nat)) ∧ 0 ≤ y.toInt ∧ y.toInt ≤ z.toInt ∧ z.toInt ≤ 8
theorem in_II (x y : Int32) {b : Nat} (hb : b < 2147483648) : (y.toInt64 ≤ x.toInt64 ∧ x.toInt64 ≤ lN b) ↔ (y.toInt ≤ x.toInt ∧ x.toInt ≤ (b : Int)) := by
  rw [Int64.le_iff_toInt_le, Int64.le_iff_toInt_le, toI64, toI64, lN_toI (by omega)]
theorem sp_isInII (x y : Int32) {b : Nat} (hb : b < 2147483648) : XM (d + 1) Ym_isIn [.long x.toInt64, .long y.toInt64, .long (lN b)] iv jv Q = Q (some (.int (b01 (y.toInt ≤ x.toInt ∧ x.toInt ≤ (b : Int))))) (mk iv jv) := by
  rw [sp_m_isIn, b01_congr (in_II x y hb)]
theorem sp_m_quota_bad {x y z : Int32} (h : ¬ isQ x y z) : XM (d + 3) Ym_quota [.ref 118, .int x, .int y, .int z] iv jv Q = Q (some (.int (-2))) (mk iv jv) := by
  unfold isQ at h
  by_cases p1 : 0 ≤ x.toInt ∧ x.toInt ≤ ((2 : Nat) : Int) <;> by_cases p2 : ((0 : Nat) : Int) ≤ y.toInt ∧ y.toInt ≤ ((8 : Nat) : Int) <;> by_cases p3 : y.toInt ≤ z.toInt ∧ z.toInt ≤ ((8 : Nat) : Int) <;>
  first
  | (exfalso; omega)
  | (simp (disch := first | assumption | omega) only [e_m_quota, x_m_quota_0, x_m_quota_1, x_m_quota_4, x_m_quota_7, x_m_quota_8, x_m_quota_9, x_m_quota_10, x_m_quota_13, x_m_quota_16, x_m_quota_19, x_m_quota_20, x_m_quota_21, x_m_quota_22, x_m_quota_23, x_m_quota_26, x_m_quota_29, x_m_quota_32, x_m_quota_34, x_m_quota_35, x_m_quota_37, x_m_quota_38, x_m_quota_40, x_m_quota_41, x_m_quota_42, x_m_quota_45, x_m_quota_46, x_m_quota_47, x_m_quota_49, x_m_quota_50, x_m_quota_51, x_m_quota_54, x_m_quota_55, x_m_quota_57, x_m_quota_58, x_m_quota_61, x_m_quota_63, x_m_quota_64, x_m_quota_65, x_m_quota_66, x_m_quota_67, x_m_quota_68, x_m_quota_69, x_m_quota_72, x_m_quota_74, x_m_quota_75, x_m_quota_76, x_m_quota_77, x_m_quota_78, x_m_quota_79, x_m_quota_81, sp_isInI, sp_isInII, sp_m_isArea, XK_s, b01_eq0, p1, p2, p3, not_false_eq_true, not_true_eq_false, if_true, if_false, and_self])
theorem sp_isAreaN {i : Nat} (hi : i < 2147483648) : XM (d + 2) Ym_isArea [.int (nI i)] iv jv Q = Q (some (.int (b01 (i ≤ 2)))) (mk iv jv) := by
  rw [sp_m_isArea (nI i), b01_congr (e := i ≤ 2)]
  rw [nI_toI hi]; omega
theorem sp_m_quota {a x y : Nat} (ha : a < 3) (hxy : x ≤ y) (hy : y ≤ 8) (hG : ∀ k, k < 101 → jv 119 k = lN (G k)) (hB : IB G) : XM (d + 3) Ym_quota [.ref 118, .int (nI a), .int (nI x), .int (nI y)] iv jv Q = Q (some (.int (nI (10 * G (18 + a) + G (21 + a))))) (mk iv (upj (upj jv 119 (18 + a) (lN x)) 119 (21 + a) (lN y))) := by
  have h2 : a ≤ 2 := by omega
  have hx : x ≤ 8 := by omega
  have g1 := hG (18 + a) (by omega)
  have g2 := hG (21 + a) (by omega)
  simp (disch := first | assumption | omega) only [e_m_quota, x_m_quota_0, x_m_quota_1, x_m_quota_4, x_m_quota_7, x_m_quota_8, x_m_quota_9, x_m_quota_10, x_m_quota_13, x_m_quota_16, x_m_quota_19, x_m_quota_20, x_m_quota_21, x_m_quota_22, x_m_quota_23, x_m_quota_26, x_m_quota_29, x_m_quota_32, x_m_quota_34, x_m_quota_35, x_m_quota_37, x_m_quota_38, x_m_quota_40, x_m_quota_41, x_m_quota_42, x_m_quota_45, x_m_quota_46, x_m_quota_47, x_m_quota_49, x_m_quota_50, x_m_quota_51, x_m_quota_54, x_m_quota_55, x_m_quota_57, x_m_quota_58, x_m_quota_61, x_m_quota_63, x_m_quota_64, x_m_quota_65, x_m_quota_66, x_m_quota_67, x_m_quota_68, x_m_quota_69, x_m_quota_72, x_m_quota_74, x_m_quota_75, x_m_quota_76, x_m_quota_77, x_m_quota_78, x_m_quota_79, x_m_quota_81, sp_isAreaN, q_i2l, sp_isInN, XK_s, b01_eq0, h2, hx, hy, hxy, Nat.zero_le, and_self, true_and, not_true_eq_false, if_false, q_add, q_mul, sp_m_get, g1, g2, q_l2i, q_in, q_tn]
/-! ease, rules, set -/
def isE (G : Nat → Nat) (x y : Int32) : Prop := isIt G x ∧ 0 ≤ y.toInt ∧ y.toInt ≤ 10
theorem sp_m_ease_bad {x y : Int32} (hG : ∀ k, k < 101 → jv 119 k = lN (G k)) (hB : IB G) (h : ¬ isE G x y) : XM (d + 3) Ym_ease [.ref 118, .int x, .int y] iv jv Q = Q (some (.int (-2))) (mk iv jv) := by
  have hb := hB.1
  have h29 := hG 29 (by decide)
  unfold isE isIt at h
  by_cases p1 : 0 ≤ x.toInt ∧ x.toInt < (G 29 : Int) <;> by_cases p2 : ((0 : Nat) : Int) ≤ y.toInt ∧ y.toInt ≤ ((10 : Nat) : Int) <;>
  first
  | (exfalso; omega)
  | (simp (disch := first | assumption | omega) only [e_m_ease, x_m_ease_0, x_m_ease_1, x_m_ease_2, x_m_ease_5, x_m_ease_8, x_m_ease_9, x_m_ease_10, x_m_ease_11, x_m_ease_14, x_m_ease_17, x_m_ease_20, x_m_ease_22, x_m_ease_23, x_m_ease_24, x_m_ease_25, x_m_ease_26, x_m_ease_29, x_m_ease_30, x_m_ease_31, x_m_ease_34, x_m_ease_36, x_m_ease_38, x_m_ease_39, x_m_ease_40, x_m_ease_41, x_m_ease_42, x_m_ease_43, x_m_ease_44, x_m_ease_45, x_m_ease_46, x_m_ease_47, sp_isInI, sp_m_isItem, XK_s, b01_eq0, p1, p2, not_false_eq_true, not_true_eq_false, if_true, if_false, and_self])
theorem sp_m_ease {i v : Nat} (hi : i < G 29) (hv : v ≤ 10) (hG : ∀ k, k < 101 → jv 119 k = lN (G k)) (hB : IB G) : XM (d + 3) Ym_ease [.ref 118, .int (nI i), .int (nI v)] iv jv Q = Q (some (.int (nI (G (37 + 6 * i + 4))))) (mk iv (upj jv 119 (37 + 6 * i + 4) (lN v))) := by
  have hb := hB.1
  have h29 := hG 29 (by decide)
  have g1 := hG (37 + 6 * i + 4) (by omega)
  simp (disch := first | assumption | omega) only [e_m_ease, x_m_ease_0, x_m_ease_1, x_m_ease_2, x_m_ease_5, x_m_ease_8, x_m_ease_9, x_m_ease_10, x_m_ease_11, x_m_ease_14, x_m_ease_17, x_m_ease_20, x_m_ease_22, x_m_ease_23, x_m_ease_24, x_m_ease_25, x_m_ease_26, x_m_ease_29, x_m_ease_30, x_m_ease_31, x_m_ease_34, x_m_ease_36, x_m_ease_38, x_m_ease_39, x_m_ease_40, x_m_ease_41, x_m_ease_42, x_m_ease_43, x_m_ease_44, x_m_ease_45, x_m_ease_46, x_m_ease_47, sp_isItemN, q_i2l, sp_isInN, XK_s, b01_eq0, hi, hv, Nat.zero_le, and_self, true_and, not_true_eq_false, if_false, q_add, q_mul, sp_m_of, g1, q_l2i, q_in, q_tn]
def is31 (x : Int32) : Prop := 0 ≤ x.toInt ∧ x.toInt ≤ 31
theorem sp_m_rules_bad {x : Int32} (h : ¬ is31 x) : XM (d + 3) Ym_rules [.ref 118, .int x] iv jv Q = Q (some (.int (-2))) (mk iv jv) := by
  have p1 : ¬ (((0 : Nat) : Int) ≤ x.toInt ∧ x.toInt ≤ ((31 : Nat) : Int)) := h
  simp (disch := first | assumption | omega) only [e_m_rules, x_m_rules_0, x_m_rules_1, x_m_rules_2, x_m_rules_3, x_m_rules_6, x_m_rules_9, x_m_rules_12, x_m_rules_14, x_m_rules_15, x_m_rules_16, x_m_rules_18, x_m_rules_21, x_m_rules_22, x_m_rules_23, x_m_rules_26, x_m_rules_28, x_m_rules_29, x_m_rules_30, x_m_rules_31, x_m_rules_32, sp_isInI, XK_s, b01_eq0, p1, not_false_eq_true, if_true]
theorem sp_m_rules {s : Nat} (hs : s ≤ 31) (hG : ∀ k, k < 101 → jv 119 k = lN (G k)) : XM (d + 3) Ym_rules [.ref 118, .int (nI s)] iv jv Q = Q (some (.int (nI (G 32)))) (mk iv (upj jv 119 32 (lN s))) := by
  have g1 := hG 32 (by omega)
  simp (disch := first | assumption | omega) only [e_m_rules, x_m_rules_0, x_m_rules_1, x_m_rules_2, x_m_rules_3, x_m_rules_6, x_m_rules_9, x_m_rules_12, x_m_rules_14, x_m_rules_15, x_m_rules_16, x_m_rules_18, x_m_rules_21, x_m_rules_22, x_m_rules_23, x_m_rules_26, x_m_rules_28, x_m_rules_29, x_m_rules_30, x_m_rules_31, x_m_rules_32, q_i2l, sp_isInN, XK_s, b01_eq0, hs, Nat.zero_le, and_self, true_and, not_true_eq_false, if_false, sp_m_get, g1, q_l2i, q_in, q_tn]
def isSet (x y : Int32) : Prop := (x.toInt = 0 ∧ 1 ≤ y.toInt ∧ y.toInt ≤ 8) ∨ (x.toInt = 1 ∧ 0 ≤ y.toInt ∧ y.toInt ≤ 9) ∨ ((10 ≤ x.toInt ∧ x.toInt ≤ 14) ∧ 0 ≤ y.toInt ∧ y.toInt ≤ 99)
theorem sp_m_set_bad {x y : Int32} (h : ¬ isSet x y) : XM (d + 3) Ym_set [.ref 118, .int x, .int y] iv jv Q = Q (some (.int (-2))) (mk iv jv) := by
  unfold isSet at h
  have e0 := toI_eq x (k := 0) (by decide)
  have e1 := toI_eq x (k := 1) (by decide)
  by_cases p1 : x.toInt = ((0 : Nat) : Int)
  · have p2 : ¬ (((1 : Nat) : Int) ≤ y.toInt ∧ y.toInt ≤ ((8 : Nat) : Int)) := by omega
    simp (disch := first | assumption | omega) only [e_m_set, x_m_set_0, x_m_set_1, x_m_set_2, x_m_set_5, x_m_set_8, x_m_set_10, x_m_set_11, x_m_set_12, x_m_set_15, x_m_set_17, x_m_set_20, x_m_set_21, x_m_set_22, x_m_set_25, x_m_set_27, x_m_set_30, x_m_set_32, x_m_set_33, x_m_set_34, x_m_set_36, x_m_set_37, x_m_set_38, x_m_set_39, x_m_set_40, x_m_set_43, x_m_set_45, x_m_set_46, x_m_set_49, x_m_set_50, x_m_set_51, x_m_set_52, x_m_set_53, x_m_set_55, e_m_maySet, x_m_maySet_0, x_m_maySet_1, x_m_maySet_4, x_m_maySet_5, x_m_maySet_6, x_m_maySet_7, x_m_maySet_10, x_m_maySet_13, x_m_maySet_16, x_m_maySet_17, x_m_maySet_18, x_m_maySet_21, x_m_maySet_22, x_m_maySet_23, x_m_maySet_24, x_m_maySet_27, x_m_maySet_30, x_m_maySet_33, x_m_maySet_34, x_m_maySet_35, x_m_maySet_38, x_m_maySet_41, x_m_maySet_44, x_m_maySet_47, x_m_maySet_48, x_m_maySet_49, x_m_maySet_50, x_m_maySet_53, x_m_maySet_56, x_m_maySet_59, x_m_maySet_60, x_m_maySet_63, x_m_maySet_64, e0, p1, sp_isInI, XK_s, b01_eq0, p2, not_false_eq_true, if_true, b01_ok, b01_eq1, true_or, or_true, true_and]
  · by_cases p3 : x.toInt = ((1 : Nat) : Int)
    · have p2 : ¬ (((0 : Nat) : Int) ≤ y.toInt ∧ y.toInt ≤ ((9 : Nat) : Int)) := by omega
      have p4 : ¬ (((1 : Nat) : Int) = ((0 : Nat) : Int)) := by omega
      simp (disch := first | assumption | omega) only [e_m_set, x_m_set_0, x_m_set_1, x_m_set_2, x_m_set_5, x_m_set_8, x_m_set_10, x_m_set_11, x_m_set_12, x_m_set_15, x_m_set_17, x_m_set_20, x_m_set_21, x_m_set_22, x_m_set_25, x_m_set_27, x_m_set_30, x_m_set_32, x_m_set_33, x_m_set_34, x_m_set_36, x_m_set_37, x_m_set_38, x_m_set_39, x_m_set_40, x_m_set_43, x_m_set_45, x_m_set_46, x_m_set_49, x_m_set_50, x_m_set_51, x_m_set_52, x_m_set_53, x_m_set_55, e_m_maySet, x_m_maySet_0, x_m_maySet_1, x_m_maySet_4, x_m_maySet_5, x_m_maySet_6, x_m_maySet_7, x_m_maySet_10, x_m_maySet_13, x_m_maySet_16, x_m_maySet_17, x_m_maySet_18, x_m_maySet_21, x_m_maySet_22, x_m_maySet_23, x_m_maySet_24, x_m_maySet_27, x_m_maySet_30, x_m_maySet_33, x_m_maySet_34, x_m_maySet_35, x_m_maySet_38, x_m_maySet_41, x_m_maySet_44, x_m_maySet_47, x_m_maySet_48, x_m_maySet_49, x_m_maySet_50, x_m_maySet_53, x_m_maySet_56, x_m_maySet_59, x_m_maySet_60, x_m_maySet_63, x_m_maySet_64, e0, e1, p3, p4, sp_isInI, XK_s, b01_eq0, p2, not_false_eq_true, if_true, if_false, b01_ok, b01_eq1, true_or, or_true, true_and]
    · by_cases p4 : ((10 : Nat) : Int) ≤ x.toInt ∧ x.toInt ≤ ((14 : Nat) : Int)
      · have p2 : ¬ (((0 : Nat) : Int) ≤ y.toInt ∧ y.toInt ≤ ((99 : Nat) : Int)) := by omega
        simp (disch := first | assumption | omega) only [e_m_set, x_m_set_0, x_m_set_1, x_m_set_2, x_m_set_5, x_m_set_8, x_m_set_10, x_m_set_11, x_m_set_12, x_m_set_15, x_m_set_17, x_m_set_20, x_m_set_21, x_m_set_22, x_m_set_25, x_m_set_27, x_m_set_30, x_m_set_32, x_m_set_33, x_m_set_34, x_m_set_36, x_m_set_37, x_m_set_38, x_m_set_39, x_m_set_40, x_m_set_43, x_m_set_45, x_m_set_46, x_m_set_49, x_m_set_50, x_m_set_51, x_m_set_52, x_m_set_53, x_m_set_55, e_m_maySet, x_m_maySet_0, x_m_maySet_1, x_m_maySet_4, x_m_maySet_5, x_m_maySet_6, x_m_maySet_7, x_m_maySet_10, x_m_maySet_13, x_m_maySet_16, x_m_maySet_17, x_m_maySet_18, x_m_maySet_21, x_m_maySet_22, x_m_maySet_23, x_m_maySet_24, x_m_maySet_27, x_m_maySet_30, x_m_maySet_33, x_m_maySet_34, x_m_maySet_35, x_m_maySet_38, x_m_maySet_41, x_m_maySet_44, x_m_maySet_47, x_m_maySet_48, x_m_maySet_49, x_m_maySet_50, x_m_maySet_53, x_m_maySet_56, x_m_maySet_59, x_m_maySet_60, x_m_maySet_63, x_m_maySet_64, e0, e1, p1, p3, p4, sp_isInI, XK_s, b01_eq0, p2, not_false_eq_true, not_true_eq_false, if_true, if_false, b01_ok, b01_eq1, true_or, or_true, true_and, and_self, z01, true_or]
      · simp (disch := first | assumption | omega) only [e_m_set, x_m_set_0, x_m_set_1, x_m_set_2, x_m_set_5, x_m_set_8, x_m_set_10, x_m_set_11, x_m_set_12, x_m_set_15, x_m_set_17, x_m_set_20, x_m_set_21, x_m_set_22, x_m_set_25, x_m_set_27, x_m_set_30, x_m_set_32, x_m_set_33, x_m_set_34, x_m_set_36, x_m_set_37, x_m_set_38, x_m_set_39, x_m_set_40, x_m_set_43, x_m_set_45, x_m_set_46, x_m_set_49, x_m_set_50, x_m_set_51, x_m_set_52, x_m_set_53, x_m_set_55, e_m_maySet, x_m_maySet_0, x_m_maySet_1, x_m_maySet_4, x_m_maySet_5, x_m_maySet_6, x_m_maySet_7, x_m_maySet_10, x_m_maySet_13, x_m_maySet_16, x_m_maySet_17, x_m_maySet_18, x_m_maySet_21, x_m_maySet_22, x_m_maySet_23, x_m_maySet_24, x_m_maySet_27, x_m_maySet_30, x_m_maySet_33, x_m_maySet_34, x_m_maySet_35, x_m_maySet_38, x_m_maySet_41, x_m_maySet_44, x_m_maySet_47, x_m_maySet_48, x_m_maySet_49, x_m_maySet_50, x_m_maySet_53, x_m_maySet_56, x_m_maySet_59, x_m_maySet_60, x_m_maySet_63, x_m_maySet_64, e0, e1, p1, p3, p4, sp_isInI, XK_s, b01_eq0, not_false_eq_true, not_true_eq_false, if_true, if_false, b01_ok, b01_eq1, true_or, or_true, true_and, and_self, z01, true_or]
theorem sp_m_set0 {v : Nat} (h1 : 1 ≤ v) (hv : v ≤ 8) (hG : ∀ k, k < 101 → jv 119 k = lN (G k)) : XM (d + 3) Ym_set [.ref 118, .int (nI 0), .int (nI v)] iv jv Q = Q (some (.int (nI (G 30)))) (mk iv (upj jv 119 30 (lN v))) := by
  have g1 := hG 30 (by omega)
  simp (disch := first | assumption | omega) only [e_m_set, x_m_set_0, x_m_set_1, x_m_set_2, x_m_set_5, x_m_set_8, x_m_set_10, x_m_set_11, x_m_set_12, x_m_set_15, x_m_set_17, x_m_set_20, x_m_set_21, x_m_set_22, x_m_set_25, x_m_set_27, x_m_set_30, x_m_set_32, x_m_set_33, x_m_set_34, x_m_set_36, x_m_set_37, x_m_set_38, x_m_set_39, x_m_set_40, x_m_set_43, x_m_set_45, x_m_set_46, x_m_set_49, x_m_set_50, x_m_set_51, x_m_set_52, x_m_set_53, x_m_set_55, e_m_maySet, x_m_maySet_0, x_m_maySet_1, x_m_maySet_4, x_m_maySet_5, x_m_maySet_6, x_m_maySet_7, x_m_maySet_10, x_m_maySet_13, x_m_maySet_16, x_m_maySet_17, x_m_maySet_18, x_m_maySet_21, x_m_maySet_22, x_m_maySet_23, x_m_maySet_24, x_m_maySet_27, x_m_maySet_30, x_m_maySet_33, x_m_maySet_34, x_m_maySet_35, x_m_maySet_38, x_m_maySet_41, x_m_maySet_44, x_m_maySet_47, x_m_maySet_48, x_m_maySet_49, x_m_maySet_50, x_m_maySet_53, x_m_maySet_56, x_m_maySet_59, x_m_maySet_60, x_m_maySet_63, x_m_maySet_64, q_i2l, sp_isInN, XK_s, b01_eq0, h1, hv, Nat.zero_le, and_self, true_and, not_true_eq_false, if_false, if_true, b01_ok, b01_eq1, true_or, or_true, sp_m_get, g1, q_l2i, q_in, q_tn]
theorem sp_m_set1 {v : Nat} (hv : v ≤ 9) (hG : ∀ k, k < 101 → jv 119 k = lN (G k)) : XM (d + 3) Ym_set [.ref 118, .int (nI 1), .int (nI v)] iv jv Q = Q (some (.int (nI (G 31)))) (mk iv (upj jv 119 31 (lN v))) := by
  have g1 := hG 31 (by omega)
  simp (disch := first | assumption | omega) only [e_m_set, x_m_set_0, x_m_set_1, x_m_set_2, x_m_set_5, x_m_set_8, x_m_set_10, x_m_set_11, x_m_set_12, x_m_set_15, x_m_set_17, x_m_set_20, x_m_set_21, x_m_set_22, x_m_set_25, x_m_set_27, x_m_set_30, x_m_set_32, x_m_set_33, x_m_set_34, x_m_set_36, x_m_set_37, x_m_set_38, x_m_set_39, x_m_set_40, x_m_set_43, x_m_set_45, x_m_set_46, x_m_set_49, x_m_set_50, x_m_set_51, x_m_set_52, x_m_set_53, x_m_set_55, e_m_maySet, x_m_maySet_0, x_m_maySet_1, x_m_maySet_4, x_m_maySet_5, x_m_maySet_6, x_m_maySet_7, x_m_maySet_10, x_m_maySet_13, x_m_maySet_16, x_m_maySet_17, x_m_maySet_18, x_m_maySet_21, x_m_maySet_22, x_m_maySet_23, x_m_maySet_24, x_m_maySet_27, x_m_maySet_30, x_m_maySet_33, x_m_maySet_34, x_m_maySet_35, x_m_maySet_38, x_m_maySet_41, x_m_maySet_44, x_m_maySet_47, x_m_maySet_48, x_m_maySet_49, x_m_maySet_50, x_m_maySet_53, x_m_maySet_56, x_m_maySet_59, x_m_maySet_60, x_m_maySet_63, x_m_maySet_64, q_i2l, sp_isInN, XK_s, b01_eq0, hv, n10, Nat.zero_le, and_self, true_and, not_true_eq_false, if_false, if_true, b01_ok, b01_eq1, true_or, or_true, sp_m_get, g1, q_l2i, q_in, q_tn]
theorem sp_m_set10 {r v : Nat} (hr : r < 5) (hv : v ≤ 99) (hG : ∀ k, k < 101 → jv 119 k = lN (G k)) : XM (d + 3) Ym_set [.ref 118, .int (nI (10 + r)), .int (nI v)] iv jv Q = Q (some (.int (nI (G (24 + r))))) (mk iv (upj jv 119 (24 + r) (lN v))) := by
  have g1 := hG (24 + r) (by omega)
  have e1 : ¬ (10 + r = 0) := by omega
  have e2 : ¬ (10 + r = 1) := by omega
  have e3 : 10 ≤ 10 + r := by omega
  have e4 : 10 + r ≤ 14 := by omega
  have e5 : 24 + (10 + r) - 10 = 24 + r := by omega
  simp (disch := first | assumption | omega) only [e_m_set, x_m_set_0, x_m_set_1, x_m_set_2, x_m_set_5, x_m_set_8, x_m_set_10, x_m_set_11, x_m_set_12, x_m_set_15, x_m_set_17, x_m_set_20, x_m_set_21, x_m_set_22, x_m_set_25, x_m_set_27, x_m_set_30, x_m_set_32, x_m_set_33, x_m_set_34, x_m_set_36, x_m_set_37, x_m_set_38, x_m_set_39, x_m_set_40, x_m_set_43, x_m_set_45, x_m_set_46, x_m_set_49, x_m_set_50, x_m_set_51, x_m_set_52, x_m_set_53, x_m_set_55, e_m_maySet, x_m_maySet_0, x_m_maySet_1, x_m_maySet_4, x_m_maySet_5, x_m_maySet_6, x_m_maySet_7, x_m_maySet_10, x_m_maySet_13, x_m_maySet_16, x_m_maySet_17, x_m_maySet_18, x_m_maySet_21, x_m_maySet_22, x_m_maySet_23, x_m_maySet_24, x_m_maySet_27, x_m_maySet_30, x_m_maySet_33, x_m_maySet_34, x_m_maySet_35, x_m_maySet_38, x_m_maySet_41, x_m_maySet_44, x_m_maySet_47, x_m_maySet_48, x_m_maySet_49, x_m_maySet_50, x_m_maySet_53, x_m_maySet_56, x_m_maySet_59, x_m_maySet_60, x_m_maySet_63, x_m_maySet_64, q_i2l, sp_isInN, XK_s, b01_eq0, hv, q_eq, e1, e2, e3, e4, Nat.zero_le, and_self, true_and, not_true_eq_false, if_false, if_true, z11, or_true, n10, Nat.one_ne_zero, q_add, q_sub, e5, sp_m_get, g1, q_l2i, q_in, q_tn]
end MUT1
