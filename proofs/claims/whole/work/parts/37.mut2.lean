section MUT2
variable {d : Nat} {iv : mI} {jv : mJ} {Q : Option Value → mH → Prop} {G : Nat → Nat} {f : Nat → Nat}
/-! by, taken -/
def isBy (G : Nat → Nat) (x y z : Int32) : Prop := isIt G x ∧ isLv y ∧ i01 z
theorem sp_m_by_bad {x y z : Int32} (hG : ∀ k, k < 101 → jv 119 k = lN (G k)) (hB : IB G) (h : ¬ isBy G x y z) : XM (d + 5) Ym_by [.ref 118, .int x, .int y, .int z] iv jv Q = Q (some (.int (-2))) (mk iv jv) := by
  have hb := hB.1
  have h29 := hG 29 (by decide)
  unfold isBy isIt isLv i01 at h
  by_cases p1 : 0 ≤ x.toInt ∧ x.toInt < (G 29 : Int) <;> by_cases p2 : 0 ≤ y.toInt ∧ y.toInt ≤ ((8 : Nat) : Int) <;> by_cases p3 : ((0 : Nat) : Int) ≤ z.toInt ∧ z.toInt ≤ ((1 : Nat) : Int) <;>
  first
  | (exfalso; omega)
  | (simp (disch := first | assumption | omega) only [e_m_by, x_m_by_0, x_m_by_1, x_m_by_2, x_m_by_5, x_m_by_8, x_m_by_9, x_m_by_12, x_m_by_15, x_m_by_16, x_m_by_17, x_m_by_18, x_m_by_19, x_m_by_22, x_m_by_25, x_m_by_27, x_m_by_28, x_m_by_29, x_m_by_32, x_m_by_33, x_m_by_34, x_m_by_35, x_m_by_38, x_m_by_41, x_m_by_42, x_m_by_43, x_m_by_44, x_m_by_47, sp_isInI, sp_m_isItem, sp_m_isLevel, XK_s, b01_eq0, p1, p2, p3, not_false_eq_true, not_true_eq_false, if_true, if_false, and_self])
def vBy (G : Nat → Nat) (i l w : Nat) : Nat := if w = 0 then rgt G i l else tel G i l
theorem sp_m_by {i l w : Nat} (hi : i < G 29) (hl : l < 9) (hw : w < 2) (hG : ∀ k, k < 101 → jv 119 k = lN (G k)) (hB : IB G) : XM (d + 5) Ym_by [.ref 118, .int (nI i), .int (nI l), .int (nI w)] iv jv Q = Q (some (.int (nI (vBy G i l w)))) (mk iv jv) := by
  have hb := hB.1
  have h29 := hG 29 (by decide)
  have hi8 : i < 8 := by omega
  have hl8 : l ≤ 8 := by omega
  have hw1 : w ≤ 1 := by omega
  unfold vBy
  simp (disch := first | assumption | omega) only [e_m_by, x_m_by_0, x_m_by_1, x_m_by_2, x_m_by_5, x_m_by_8, x_m_by_9, x_m_by_12, x_m_by_15, x_m_by_16, x_m_by_17, x_m_by_18, x_m_by_19, x_m_by_22, x_m_by_25, x_m_by_27, x_m_by_28, x_m_by_29, x_m_by_32, x_m_by_33, x_m_by_34, x_m_by_35, x_m_by_38, x_m_by_41, x_m_by_42, x_m_by_43, x_m_by_44, x_m_by_47, sp_isItemN, sp_isLevelN, q_i2l, sp_isInN, XK_s, b01_eq0, hi, hl8, hw1, Nat.zero_le, and_self, true_and, not_true_eq_false, if_false, qn0, sp_m_rightOf hG hB, sp_m_tellsOf hG hB]
  split <;> rfl
def isTk (G : Nat → Nat) (x y : Int32) : Prop := isIt G x ∧ 0 ≤ y.toInt ∧ y.toInt ≤ 5
theorem sp_m_taken_bad {x y : Int32} (hG : ∀ k, k < 101 → jv 119 k = lN (G k)) (hB : IB G) (h : ¬ isTk G x y) : XM (d + 3) Ym_taken [.ref 118, .int x, .int y] iv jv Q = Q (some (.int (-2))) (mk iv jv) := by
  have hb := hB.1
  have h29 := hG 29 (by decide)
  unfold isTk isIt at h
  by_cases p1 : 0 ≤ x.toInt ∧ x.toInt < (G 29 : Int) <;> by_cases p2 : ((0 : Nat) : Int) ≤ y.toInt ∧ y.toInt ≤ ((5 : Nat) : Int) <;>
  first
  | (exfalso; omega)
  | (simp (disch := first | assumption | omega) only [e_m_taken, x_m_taken_0, x_m_taken_1, x_m_taken_2, x_m_taken_5, x_m_taken_8, x_m_taken_9, x_m_taken_10, x_m_taken_11, x_m_taken_14, x_m_taken_17, x_m_taken_20, x_m_taken_22, x_m_taken_23, x_m_taken_24, x_m_taken_25, x_m_taken_26, x_m_taken_29, x_m_taken_31, x_m_taken_32, x_m_taken_35, x_m_taken_36, x_m_taken_37, x_m_taken_40, x_m_taken_41, x_m_taken_44, x_m_taken_45, x_m_taken_48, x_m_taken_49, x_m_taken_50, x_m_taken_53, x_m_taken_54, x_m_taken_55, x_m_taken_56, x_m_taken_59, x_m_taken_62, x_m_taken_64, sp_isInI, sp_m_isItem, XK_s, b01_eq0, p1, p2, not_false_eq_true, not_true_eq_false, if_true, if_false, and_self])
/-- is a KIND k or under it -/
def undr (kind k : Nat) : Bool := kind == k || k == 0 || (kind == 3 && k == 1) || (kind == 4 && k == 2)
theorem nm0 {k : Nat} (h : k < 2147483648) : ((-1 : Int32) = nI k) = False := by
  apply propext
  constructor
  · intro e
    have := congrArg Int32.toInt e
    rw [nI_toI h] at this
    have h2 : (-1 : Int32).toInt = -1 := by decide
    omega
  · intro e; exact e.elim
theorem nm0' {k : Nat} (h : k < 2147483648) : (nI k = (-1 : Int32)) = False := by
  apply propext
  constructor
  · intro e
    have := nm0 h
    rw [e] at this
    simp at this
  · intro e; exact e.elim
def abw (kd : Nat) : Int32 := if kd = 3 then nI 1 else if kd = 4 then nI 2 else if kd = 0 then -1 else nI 0
theorem sp_m_above {kd : Nat} (h : kd ≤ 5) : XM (d + 1) Ym_above [.int (nI kd)] iv jv Q = Q (some (.int (abw kd))) (mk iv jv) := by
  unfold abw
  by_cases h3 : kd = 3
  · simp (disch := first | assumption | omega) only [e_m_above, x_m_above_0, x_m_above_1, x_m_above_2, x_m_above_5, x_m_above_6, x_m_above_9, x_m_above_10, x_m_above_11, x_m_above_14, x_m_above_15, x_m_above_18, x_m_above_19, x_m_above_22, x_m_above_23, x_m_above_26, x_m_above_27, q_eq, h3, if_true]
  · by_cases h4 : kd = 4
    · simp (disch := first | assumption | omega) only [e_m_above, x_m_above_0, x_m_above_1, x_m_above_2, x_m_above_5, x_m_above_6, x_m_above_9, x_m_above_10, x_m_above_11, x_m_above_14, x_m_above_15, x_m_above_18, x_m_above_19, x_m_above_22, x_m_above_23, x_m_above_26, x_m_above_27, q_eq, h3, h4, if_true, if_false, (show ¬ ((4 : Nat) = 3) from by decide)]
    · by_cases h0 : kd = 0
      · simp (disch := first | assumption | omega) only [e_m_above, x_m_above_0, x_m_above_1, x_m_above_2, x_m_above_5, x_m_above_6, x_m_above_9, x_m_above_10, x_m_above_11, x_m_above_14, x_m_above_15, x_m_above_18, x_m_above_19, x_m_above_22, x_m_above_23, x_m_above_26, x_m_above_27, q_eq, h3, h4, h0, if_true, if_false, (show ¬ ((0 : Nat) = 3) from by decide), (show ¬ ((0 : Nat) = 4) from by decide)]
      · simp (disch := first | assumption | omega) only [e_m_above, x_m_above_0, x_m_above_1, x_m_above_2, x_m_above_5, x_m_above_6, x_m_above_9, x_m_above_10, x_m_above_11, x_m_above_14, x_m_above_15, x_m_above_18, x_m_above_19, x_m_above_22, x_m_above_23, x_m_above_26, x_m_above_27, q_eq, h3, h4, h0, if_true, if_false]
theorem tk_m {i k : Nat} (hk : k < 6) : XT (d + 2) Ym_taken 30 [.ref 118, .int (nI i), .int (nI k), .int (-1)] [] iv jv Q = Q (some (.int (-13))) (mk iv jv) := by
  rw [x_m_taken_30]
  simp (disch := first | assumption | omega) only [x_m_taken_0, x_m_taken_1, x_m_taken_2, x_m_taken_5, x_m_taken_8, x_m_taken_9, x_m_taken_10, x_m_taken_11, x_m_taken_14, x_m_taken_17, x_m_taken_20, x_m_taken_22, x_m_taken_23, x_m_taken_24, x_m_taken_25, x_m_taken_26, x_m_taken_29, x_m_taken_31, x_m_taken_32, x_m_taken_35, x_m_taken_36, x_m_taken_37, x_m_taken_40, x_m_taken_41, x_m_taken_44, x_m_taken_45, x_m_taken_48, x_m_taken_49, x_m_taken_50, x_m_taken_53, x_m_taken_54, x_m_taken_55, x_m_taken_56, x_m_taken_59, x_m_taken_62, x_m_taken_64, nm0, if_false, if_true]
theorem tk_s {i k kd : Nat} (hi : i < 8) (hk : k < 6) (hkd : kd ≤ 5) (hG : ∀ k, k < 101 → jv 119 k = lN (G k)) : XT (d + 2) Ym_taken 30 [.ref 118, .int (nI i), .int (nI k), .int (nI kd)] [] iv jv Q = if kd = k then Q (some (.int (nI (G (37 + 6 * i + 2))))) (mk iv jv) else XT (d + 2) Ym_taken 30 [.ref 118, .int (nI i), .int (nI k), .int (abw kd)] [] iv jv Q := by
  have g2 := hG (37 + 6 * i + 2) (by omega)
  rw [x_m_taken_30]
  by_cases h : kd = k
  · simp (disch := first | assumption | omega) only [x_m_taken_0, x_m_taken_1, x_m_taken_2, x_m_taken_5, x_m_taken_8, x_m_taken_9, x_m_taken_10, x_m_taken_11, x_m_taken_14, x_m_taken_17, x_m_taken_20, x_m_taken_22, x_m_taken_23, x_m_taken_24, x_m_taken_25, x_m_taken_26, x_m_taken_29, x_m_taken_31, x_m_taken_32, x_m_taken_35, x_m_taken_36, x_m_taken_37, x_m_taken_40, x_m_taken_41, x_m_taken_44, x_m_taken_45, x_m_taken_48, x_m_taken_49, x_m_taken_50, x_m_taken_53, x_m_taken_54, x_m_taken_55, x_m_taken_56, x_m_taken_59, x_m_taken_62, x_m_taken_64, q_eq, h, if_true, sp_m_of, XK_s, g2, q_l2i]
  · simp (disch := first | assumption | omega) only [x_m_taken_0, x_m_taken_1, x_m_taken_2, x_m_taken_5, x_m_taken_8, x_m_taken_9, x_m_taken_10, x_m_taken_11, x_m_taken_14, x_m_taken_17, x_m_taken_20, x_m_taken_22, x_m_taken_23, x_m_taken_24, x_m_taken_25, x_m_taken_26, x_m_taken_29, x_m_taken_31, x_m_taken_32, x_m_taken_35, x_m_taken_36, x_m_taken_37, x_m_taken_40, x_m_taken_41, x_m_taken_44, x_m_taken_45, x_m_taken_48, x_m_taken_49, x_m_taken_50, x_m_taken_53, x_m_taken_54, x_m_taken_55, x_m_taken_56, x_m_taken_59, x_m_taken_62, x_m_taken_64, q_eq, h, if_false, nm0', sp_m_above, XK_s]
theorem sp_m_taken {i k : Nat} (hi : i < G 29) (hk : k < 6) (hG : ∀ k, k < 101 → jv 119 k = lN (G k)) (hB : IB G) : XM (d + 3) Ym_taken [.ref 118, .int (nI i), .int (nI k)] iv jv Q = Q (some (.int (if undr (G (37 + 6 * i)) k = true then nI (G (37 + 6 * i + 2)) else -13))) (mk iv jv) := by
  have hb := hB.1
  have h29 := hG 29 (by decide)
  have hi8 : i < 8 := by omega
  have hk5 : k ≤ 5 := by omega
  have g0 := hG (37 + 6 * i) (by omega)
  have e0 : 37 + 6 * i + 0 = 37 + 6 * i := rfl
  have b4 := (hB.2.2.2.1 i hi8).1
  simp (disch := first | assumption | omega) only [e_m_taken, x_m_taken_0, x_m_taken_1, x_m_taken_2, x_m_taken_5, x_m_taken_8, x_m_taken_9, x_m_taken_10, x_m_taken_11, x_m_taken_14, x_m_taken_17, x_m_taken_20, x_m_taken_22, x_m_taken_23, x_m_taken_24, x_m_taken_25, x_m_taken_26, x_m_taken_29, x_m_taken_31, x_m_taken_32, x_m_taken_35, x_m_taken_36, x_m_taken_37, x_m_taken_40, x_m_taken_41, x_m_taken_44, x_m_taken_45, x_m_taken_48, x_m_taken_49, x_m_taken_50, x_m_taken_53, x_m_taken_54, x_m_taken_55, x_m_taken_56, x_m_taken_59, x_m_taken_62, x_m_taken_64, sp_isItemN, q_i2l, sp_isInN, XK_s, b01_eq0, hi, hk5, Nat.zero_le, and_self, true_and, not_true_eq_false, if_false, sp_m_of, e0, g0, q_l2i]
  generalize G (37 + 6 * i) = kd at b4
  have h0 : XT (d + 2) Ym_taken 30 [.ref 118, .int (nI i), .int (nI k), .int (nI 0)] [] iv jv Q = if 0 = k then Q (some (.int (nI (G (37 + 6 * i + 2))))) (mk iv jv) else Q (some (.int (-13))) (mk iv jv) := by
    rw [tk_s hi8 hk (by decide) hG]
    show (if 0 = k then _ else XT (d + 2) Ym_taken 30 [_, _, _, .int (-1)] _ _ _ _) = _
    rw [tk_m hk]
  have h1 : XT (d + 2) Ym_taken 30 [.ref 118, .int (nI i), .int (nI k), .int (nI 1)] [] iv jv Q = if 1 = k then Q (some (.int (nI (G (37 + 6 * i + 2))))) (mk iv jv) else if 0 = k then Q (some (.int (nI (G (37 + 6 * i + 2))))) (mk iv jv) else Q (some (.int (-13))) (mk iv jv) := by
    rw [tk_s hi8 hk (by decide) hG, ← h0]
    rfl
  have h2 : XT (d + 2) Ym_taken 30 [.ref 118, .int (nI i), .int (nI k), .int (nI 2)] [] iv jv Q = if 2 = k then Q (some (.int (nI (G (37 + 6 * i + 2))))) (mk iv jv) else if 0 = k then Q (some (.int (nI (G (37 + 6 * i + 2))))) (mk iv jv) else Q (some (.int (-13))) (mk iv jv) := by
    rw [tk_s hi8 hk (by decide) hG, ← h0]
    rfl
  have h3 : XT (d + 2) Ym_taken 30 [.ref 118, .int (nI i), .int (nI k), .int (nI 3)] [] iv jv Q = if 3 = k then Q (some (.int (nI (G (37 + 6 * i + 2))))) (mk iv jv) else XT (d + 2) Ym_taken 30 [.ref 118, .int (nI i), .int (nI k), .int (nI 1)] [] iv jv Q := by
    rw [tk_s hi8 hk (by decide) hG]
    rfl
  have h4 : XT (d + 2) Ym_taken 30 [.ref 118, .int (nI i), .int (nI k), .int (nI 4)] [] iv jv Q = if 4 = k then Q (some (.int (nI (G (37 + 6 * i + 2))))) (mk iv jv) else XT (d + 2) Ym_taken 30 [.ref 118, .int (nI i), .int (nI k), .int (nI 2)] [] iv jv Q := by
    rw [tk_s hi8 hk (by decide) hG]
    rfl
  have h5 : XT (d + 2) Ym_taken 30 [.ref 118, .int (nI i), .int (nI k), .int (nI 5)] [] iv jv Q = if 5 = k then Q (some (.int (nI (G (37 + 6 * i + 2))))) (mk iv jv) else XT (d + 2) Ym_taken 30 [.ref 118, .int (nI i), .int (nI k), .int (nI 0)] [] iv jv Q := by
    rw [tk_s hi8 hk (by decide) hG]
    rfl
  rw [h1] at h3
  rw [h2] at h4
  rw [h0] at h5
  clear hB h29 hi hG g0
  match kd, b4 with
  | 0, _ => rw [h0]; match k, hk with | 0, _ | 1, _ | 2, _ | 3, _ | 4, _ | 5, _ => rfl
  | 1, _ => rw [h1]; match k, hk with | 0, _ | 1, _ | 2, _ | 3, _ | 4, _ | 5, _ => rfl
  | 2, _ => rw [h2]; match k, hk with | 0, _ | 1, _ | 2, _ | 3, _ | 4, _ | 5, _ => rfl
  | 3, _ => rw [h3]; match k, hk with | 0, _ | 1, _ | 2, _ | 3, _ | 4, _ | 5, _ => rfl
  | 4, _ => rw [h4]; match k, hk with | 0, _ | 1, _ | 2, _ | 3, _ | 4, _ | 5, _ => rfl
  | 5, _ => rw [h5]; match k, hk with | 0, _ | 1, _ | 2, _ | 3, _ | 4, _ | 5, _ => rfl
/-! end, answered -/
def endG (G : Nat → Nat) : Nat → Nat := up (up (up G 34 0) 36 0) 35 0
theorem sp_m_end (hG : ∀ k, k < 101 → jv 119 k = lN (G k)) (hB : IB G) : XM (d + 3) Ym_end [.ref 118] iv jv Q = if G 34 = 1 then Q (some (.int (nI (G 36)))) (mk iv (upj (upj (upj jv 119 34 (lN 0)) 119 36 (lN 0)) 119 35 (lN 0))) else Q (some (.int (-3))) (mk iv jv) := by
  have g34 := hG 34 (by decide)
  have b13 : G 34 ≤ 1 := hB.2.2.2.2.2.2.2.2.2.2.2.2
  by_cases h : G 34 = 1
  · simp (disch := first | assumption | omega) only [e_m_end, x_m_end_0, x_m_end_1, x_m_end_4, x_m_end_7, x_m_end_9, x_m_end_10, x_m_end_11, x_m_end_14, x_m_end_15, x_m_end_16, x_m_end_19, x_m_end_21, x_m_end_22, x_m_end_23, x_m_end_24, x_m_end_27, x_m_end_29, x_m_end_30, x_m_end_31, x_m_end_32, x_m_end_35, x_m_end_37, x_m_end_38, x_m_end_39, x_m_end_40, sp_m_isOn g34 b13, XK_s, b01_eq0, h, not_true_eq_false, if_false, if_true, sp_m_answers hG, q_in, q_tn, true_and]
  · simp (disch := first | assumption | omega) only [e_m_end, x_m_end_0, x_m_end_1, x_m_end_4, x_m_end_7, x_m_end_9, x_m_end_10, x_m_end_11, x_m_end_14, x_m_end_15, x_m_end_16, x_m_end_19, x_m_end_21, x_m_end_22, x_m_end_23, x_m_end_24, x_m_end_27, x_m_end_29, x_m_end_30, x_m_end_31, x_m_end_32, x_m_end_35, x_m_end_37, x_m_end_38, x_m_end_39, x_m_end_40, sp_m_isOn g34 b13, XK_s, b01_eq0, h, not_false_eq_true, if_false, if_true]
theorem sp_m_answered_bad {x y : Int32} (h : ¬ i01 y) : XM (d + 3) Ym_answered [.ref 118, .int x, .int y] iv jv Q = Q (some (.int (-2))) (mk iv jv) := by
  have p1 : ¬ (((0 : Nat) : Int) ≤ y.toInt ∧ y.toInt ≤ ((1 : Nat) : Int)) := h
  simp (disch := first | assumption | omega) only [e_m_answered, x_m_answered_0, x_m_answered_1, x_m_answered_2, x_m_answered_3, x_m_answered_4, x_m_answered_7, x_m_answered_10, x_m_answered_12, x_m_answered_13, x_m_answered_14, x_m_answered_17, x_m_answered_20, x_m_answered_22, x_m_answered_23, x_m_answered_24, x_m_answered_25, x_m_answered_26, x_m_answered_27, x_m_answered_30, x_m_answered_31, x_m_answered_32, x_m_answered_33, x_m_answered_36, x_m_answered_39, x_m_answered_40, x_m_answered_43, x_m_answered_45, x_m_answered_46, x_m_answered_47, x_m_answered_48, x_m_answered_49, x_m_answered_50, x_m_answered_51, x_m_answered_52, x_m_answered_53, x_m_answered_56, x_m_answered_58, sp_isInI, XK_s, b01_eq0, p1, not_false_eq_true, if_true]
/-- one less, where nothing is left: -1 -/
theorem sub1_l {n : Nat} (hn : n ≤ 100) (x : Int32) : (lN 0 ≤ x.toInt64 ∧ x.toInt64 ≤ (nI n - nI 1).toInt64) ↔ (0 ≤ x.toInt ∧ x.toInt < (n : Int)) := by
  have e : (nI n - nI 1).toInt = (n : Int) - 1 := by
    have : ∀ n, n ≤ 100 → (nI n - nI 1).toInt = (n : Int) - 1 := by decide +kernel
    exact this n hn
  rw [Int64.le_iff_toInt_le, Int64.le_iff_toInt_le, toI64, toI64, lN_toI (by decide), e]
  omega
theorem sp_isIn1 {n : Nat} (hn : n ≤ 100) (x : Int32) : XM (d + 1) Ym_isIn [.long x.toInt64, .long (lN 0), .long (nI n - nI 1).toInt64] iv jv Q = Q (some (.int (b01 (0 ≤ x.toInt ∧ x.toInt < (n : Int))))) (mk iv jv) := by
  rw [sp_m_isIn, b01_congr (sub1_l hn x)]
theorem sp_m_answered {x : Int32} {w : Nat} (hw : w < 2) (hG : ∀ k, k < 101 → jv 119 k = lN (G k)) (hB : IB G) : XM (d + 3) Ym_answered [.ref 118, .int x, .int (nI w)] iv jv Q = Q (some (.int (if G 34 = 1 then (if 0 ≤ x.toInt ∧ x.toInt < (G 36 : Int) then nI (G (85 + 2 * x.toInt.toNat + w)) else -12) else -3))) (mk iv jv) := by
  have g34 := hG 34 (by decide)
  have b13 : G 34 ≤ 1 := hB.2.2.2.2.2.2.2.2.2.2.2.2
  have hw1 : w ≤ 1 := by omega
  have b36 := hB.2.1
  by_cases h : G 34 = 1
  · by_cases h2 : 0 ≤ x.toInt ∧ x.toInt < (G 36 : Int)
    · obtain ⟨k, hk, rfl⟩ := inR_of (x := x) (m := 7) ⟨h2.1, by omega⟩ (by decide)
      rw [nI_toI (by omega)] at h2 ⊢
      have e : (k : Int).toNat = k := rfl
      have g := hG (85 + 2 * k + w) (by omega)
      have s1 := fun Q : Option Value → mH → Prop => sp_isIn1 (d := d + 1) (iv := iv) (jv := jv) (Q := Q) (n := G 36) (by omega) (nI k)
      rw [nI_toI (by omega)] at s1
      rw [q_i2l (by omega)] at s1
      simp (disch := first | assumption | omega) only [e_m_answered, x_m_answered_0, x_m_answered_1, x_m_answered_2, x_m_answered_3, x_m_answered_4, x_m_answered_7, x_m_answered_10, x_m_answered_12, x_m_answered_13, x_m_answered_14, x_m_answered_17, x_m_answered_20, x_m_answered_22, x_m_answered_23, x_m_answered_24, x_m_answered_25, x_m_answered_26, x_m_answered_27, x_m_answered_30, x_m_answered_31, x_m_answered_32, x_m_answered_33, x_m_answered_36, x_m_answered_39, x_m_answered_40, x_m_answered_43, x_m_answered_45, x_m_answered_46, x_m_answered_47, x_m_answered_48, x_m_answered_49, x_m_answered_50, x_m_answered_51, x_m_answered_52, x_m_answered_53, x_m_answered_56, x_m_answered_58, q_i2l, sp_isInN, XK_s, b01_eq0, hw1, Nat.zero_le, and_self, true_and, not_true_eq_false, if_false, sp_m_isOn g34 b13, h, if_true, sp_m_answers hG, s1, h2, e, q_mul, q_add, q_in, q_tn, g, q_l2i]
    · simp (disch := first | assumption | omega) only [e_m_answered, x_m_answered_0, x_m_answered_1, x_m_answered_2, x_m_answered_3, x_m_answered_4, x_m_answered_7, x_m_answered_10, x_m_answered_12, x_m_answered_13, x_m_answered_14, x_m_answered_17, x_m_answered_20, x_m_answered_22, x_m_answered_23, x_m_answered_24, x_m_answered_25, x_m_answered_26, x_m_answered_27, x_m_answered_30, x_m_answered_31, x_m_answered_32, x_m_answered_33, x_m_answered_36, x_m_answered_39, x_m_answered_40, x_m_answered_43, x_m_answered_45, x_m_answered_46, x_m_answered_47, x_m_answered_48, x_m_answered_49, x_m_answered_50, x_m_answered_51, x_m_answered_52, x_m_answered_53, x_m_answered_56, x_m_answered_58, q_i2l, sp_isInN, XK_s, b01_eq0, hw1, Nat.zero_le, and_self, true_and, not_true_eq_false, not_false_eq_true, if_false, sp_m_isOn g34 b13, h, if_true, sp_m_answers hG, sp_isIn1 (n := G 36) (show G 36 ≤ 100 from by omega), h2]
  · simp (disch := first | assumption | omega) only [e_m_answered, x_m_answered_0, x_m_answered_1, x_m_answered_2, x_m_answered_3, x_m_answered_4, x_m_answered_7, x_m_answered_10, x_m_answered_12, x_m_answered_13, x_m_answered_14, x_m_answered_17, x_m_answered_20, x_m_answered_22, x_m_answered_23, x_m_answered_24, x_m_answered_25, x_m_answered_26, x_m_answered_27, x_m_answered_30, x_m_answered_31, x_m_answered_32, x_m_answered_33, x_m_answered_36, x_m_answered_39, x_m_answered_40, x_m_answered_43, x_m_answered_45, x_m_answered_46, x_m_answered_47, x_m_answered_48, x_m_answered_49, x_m_answered_50, x_m_answered_51, x_m_answered_52, x_m_answered_53, x_m_answered_56, x_m_answered_58, q_i2l, sp_isInN, XK_s, b01_eq0, hw1, Nat.zero_le, and_self, true_and, not_true_eq_false, not_false_eq_true, if_false, sp_m_isOn g34 b13, h, if_true]
end MUT2
