section MUT3
variable {d : Nat} {iv : mI} {jv : mJ} {Q : Option Value → mH → Prop} {G : Nat → Nat} {f : Nat → Nat}
/-! how an ITEM was answered -/
def aoR (G : Nat → Nat) (i : Nat) : Nat → Nat → Int32
  | 0, _ => -1
  | n + 1, k => if G (85 + 2 * k) = i then nI (G (85 + 2 * k + 1)) else aoR G i n (k + 1)
theorem aoR_s (G : Nat → Nat) (i n k : Nat) : aoR G i (n + 1) k = if G (85 + 2 * k) = i then nI (G (85 + 2 * k + 1)) else aoR G i n (k + 1) := rfl
theorem lp_m_answerOf {i : Nat} (hi : i < 8) (hG : ∀ k, k < 101 → jv 119 k = lN (G k)) (hB : IB G) : ∀ n k, k + n = G 36 → XT (d + 2) Ym_answerOf 2 [.ref 118, .int (nI i), .int (nI k)] [] iv jv Q = Q (some (.int (aoR G i n k))) (mk iv jv) := by
  have b36 := hB.2.1
  intro n
  induction n with
  | zero =>
    intro k hk
    obtain rfl : k = G 36 := by omega
    rw [x_m_answerOf_2]
    simp (disch := first | assumption | omega) only [x_m_answerOf_0, x_m_answerOf_1, x_m_answerOf_3, x_m_answerOf_4, x_m_answerOf_7, x_m_answerOf_10, x_m_answerOf_11, x_m_answerOf_12, x_m_answerOf_15, x_m_answerOf_16, x_m_answerOf_19, x_m_answerOf_20, x_m_answerOf_23, x_m_answerOf_25, x_m_answerOf_26, x_m_answerOf_27, x_m_answerOf_28, x_m_answerOf_29, x_m_answerOf_30, x_m_answerOf_31, x_m_answerOf_32, x_m_answerOf_33, x_m_answerOf_34, x_m_answerOf_37, x_m_answerOf_40, x_m_answerOf_41, sp_m_answers hG, XK_s, q_le, Nat.le_refl, if_true]
    rfl
  | succ n ih =>
    intro k hk
    have h4 : ¬ G 36 ≤ k := by omega
    have b5 := (hB.2.2.2.2.1 k (by omega)).1
    have g := hG (85 + 2 * k + 1) (by omega)
    rw [x_m_answerOf_2, aoR_s]
    simp (disch := first | assumption | omega) only [x_m_answerOf_0, x_m_answerOf_1, x_m_answerOf_3, x_m_answerOf_4, x_m_answerOf_7, x_m_answerOf_10, x_m_answerOf_11, x_m_answerOf_12, x_m_answerOf_15, x_m_answerOf_16, x_m_answerOf_19, x_m_answerOf_20, x_m_answerOf_23, x_m_answerOf_25, x_m_answerOf_26, x_m_answerOf_27, x_m_answerOf_28, x_m_answerOf_29, x_m_answerOf_30, x_m_answerOf_31, x_m_answerOf_32, x_m_answerOf_33, x_m_answerOf_34, x_m_answerOf_37, x_m_answerOf_40, x_m_answerOf_41, sp_m_answers hG, XK_s, q_le, h4, if_false, sp_m_askedAt hG, q_eq]
    by_cases h : G (85 + 2 * k) = i
    · simp (disch := first | assumption | omega) only [h, if_true, q_mul, q_add, q_in, q_tn, true_and, g, q_l2i]
    · simp (disch := first | assumption | omega) only [h, if_false, q_add]
      exact ih (k + 1) (by omega)
theorem sp_m_answerOf {i : Nat} (hi : i < 8) (hG : ∀ k, k < 101 → jv 119 k = lN (G k)) (hB : IB G) : XM (d + 3) Ym_answerOf [.ref 118, .int (nI i)] iv jv Q = Q (some (.int (aoR G i (G 36) 0))) (mk iv jv) := by
  simp only [e_m_answerOf, x_m_answerOf_0, x_m_answerOf_1, x_m_answerOf_3, x_m_answerOf_4, x_m_answerOf_7, x_m_answerOf_10, x_m_answerOf_11, x_m_answerOf_12, x_m_answerOf_15, x_m_answerOf_16, x_m_answerOf_19, x_m_answerOf_20, x_m_answerOf_23, x_m_answerOf_25, x_m_answerOf_26, x_m_answerOf_27, x_m_answerOf_28, x_m_answerOf_29, x_m_answerOf_30, x_m_answerOf_31, x_m_answerOf_32, x_m_answerOf_33, x_m_answerOf_34, x_m_answerOf_37, x_m_answerOf_40, x_m_answerOf_41]
  exact lp_m_answerOf hi hG hB (G 36) 0 (by omega)
def isTo (G : Nat → Nat) (x y : Int32) : Prop := isIt G x ∧ 0 ≤ y.toInt ∧ y.toInt ≤ 7
theorem sp_m_told_bad {x y : Int32} (hG : ∀ k, k < 101 → jv 119 k = lN (G k)) (hB : IB G) (h : ¬ isTo G x y) : XM (d + 4) Ym_told [.ref 118, .int x, .int y] iv jv Q = Q (some (.int (-2))) (mk iv jv) := by
  have hb := hB.1
  have h29 := hG 29 (by decide)
  unfold isTo isIt at h
  by_cases p1 : 0 ≤ x.toInt ∧ x.toInt < (G 29 : Int) <;> by_cases p2 : ((0 : Nat) : Int) ≤ y.toInt ∧ y.toInt ≤ ((7 : Nat) : Int) <;>
  first
  | (exfalso; omega)
  | (simp (disch := first | assumption | omega) only [e_m_told, x_m_told_0, x_m_told_1, x_m_told_2, x_m_told_5, x_m_told_8, x_m_told_9, x_m_told_10, x_m_told_11, x_m_told_14, x_m_told_17, x_m_told_20, x_m_told_22, x_m_told_23, x_m_told_24, x_m_told_26, x_m_told_29, x_m_told_30, x_m_told_31, x_m_told_32, x_m_told_35, x_m_told_38, x_m_told_39, x_m_told_41, x_m_told_44, x_m_told_45, x_m_told_48, x_m_told_50, x_m_told_51, x_m_told_52, x_m_told_55, x_m_told_58, x_m_told_59, x_m_told_62, x_m_told_63, x_m_told_66, x_m_told_67, x_m_told_68, x_m_told_71, sp_isInI, sp_m_isItem, XK_s, b01_eq0, p1, p2, not_false_eq_true, not_true_eq_false, if_true, if_false, and_self])
def vTold (G : Nat → Nat) (i w : Nat) : Int32 := if w < 6 then nI (G (37 + 6 * i + w)) else if w = 6 then b01 ((G 35).testBit i = true) else aoR G i (G 36) 0
theorem sp_m_told {i w : Nat} (hi : i < G 29) (hw : w < 8) (hG : ∀ k, k < 101 → jv 119 k = lN (G k)) (hB : IB G) : XM (d + 4) Ym_told [.ref 118, .int (nI i), .int (nI w)] iv jv Q = Q (some (.int (vTold G i w))) (mk iv jv) := by
  have hb := hB.1
  have h29 := hG 29 (by decide)
  have h35 := hG 35 (by decide)
  have b35 := hB.2.2.1
  have hi8 : i < 8 := by omega
  have hw7 : w ≤ 7 := by omega
  unfold vTold
  by_cases h : w < 6
  · have h' : ¬ 6 ≤ w := by omega
    have g := hG (37 + 6 * i + w) (by omega)
    simp (disch := first | assumption | omega) only [e_m_told, x_m_told_0, x_m_told_1, x_m_told_2, x_m_told_5, x_m_told_8, x_m_told_9, x_m_told_10, x_m_told_11, x_m_told_14, x_m_told_17, x_m_told_20, x_m_told_22, x_m_told_23, x_m_told_24, x_m_told_26, x_m_told_29, x_m_told_30, x_m_told_31, x_m_told_32, x_m_told_35, x_m_told_38, x_m_told_39, x_m_told_41, x_m_told_44, x_m_told_45, x_m_told_48, x_m_told_50, x_m_told_51, x_m_told_52, x_m_told_55, x_m_told_58, x_m_told_59, x_m_told_62, x_m_told_63, x_m_told_66, x_m_told_67, x_m_told_68, x_m_told_71, sp_isItemN, q_i2l, sp_isInN, XK_s, b01_eq0, hi, hw7, Nat.zero_le, and_self, not_true_eq_false, if_false, q_le, q_lt, h, h', if_true, sp_m_of, g, q_l2i]
  · have h' : 6 ≤ w := by omega
    by_cases h6 : w = 6
    · have h7 : ¬ (6 < 6) := by omega
      subst h6
      simp (disch := first | assumption | omega) only [e_m_told, x_m_told_0, x_m_told_1, x_m_told_2, x_m_told_5, x_m_told_8, x_m_told_9, x_m_told_10, x_m_told_11, x_m_told_14, x_m_told_17, x_m_told_20, x_m_told_22, x_m_told_23, x_m_told_24, x_m_told_26, x_m_told_29, x_m_told_30, x_m_told_31, x_m_told_32, x_m_told_35, x_m_told_38, x_m_told_39, x_m_told_41, x_m_told_44, x_m_told_45, x_m_told_48, x_m_told_50, x_m_told_51, x_m_told_52, x_m_told_55, x_m_told_58, x_m_told_59, x_m_told_62, x_m_told_63, x_m_told_66, x_m_told_67, x_m_told_68, x_m_told_71, sp_isItemN, q_i2l, sp_isInN, XK_s, b01_eq0, hi, Nat.reduceLeDiff, Nat.zero_le, and_self, not_true_eq_false, if_false, q_le, q_lt, q_eq, h7, if_true, q_in, q_tn, true_and, h35, sp_m_has, Nat.le_refl]
      unfold b01
      by_cases h8 : (G 35).testBit i = true <;> simp [h8]
    · simp (disch := first | assumption | omega) only [e_m_told, x_m_told_0, x_m_told_1, x_m_told_2, x_m_told_5, x_m_told_8, x_m_told_9, x_m_told_10, x_m_told_11, x_m_told_14, x_m_told_17, x_m_told_20, x_m_told_22, x_m_told_23, x_m_told_24, x_m_told_26, x_m_told_29, x_m_told_30, x_m_told_31, x_m_told_32, x_m_told_35, x_m_told_38, x_m_told_39, x_m_told_41, x_m_told_44, x_m_told_45, x_m_told_48, x_m_told_50, x_m_told_51, x_m_told_52, x_m_told_55, x_m_told_58, x_m_told_59, x_m_told_62, x_m_told_63, x_m_told_66, x_m_told_67, x_m_told_68, x_m_told_71, sp_isItemN, q_i2l, sp_isInN, XK_s, b01_eq0, hi, hw7, Nat.zero_le, and_self, not_true_eq_false, if_false, q_le, q_lt, q_eq, h, h', h6, if_true, sp_m_answerOf hi8 hG hB]
/-! answer -/
def mayA (G : Nat → Nat) (i : Nat) : Bool := (G 34 == 1) && !(G 35).testBit i && !(askB G (G 36)).testBit i && decide (inK G (G (37 + 6 * i + 1)) < G (21 + G (37 + 6 * i + 1)))
def isA (G : Nat → Nat) (x y : Int32) : Prop := isIt G x ∧ i01 y
theorem sp_m_answer_bad {x y : Int32} (hG : ∀ k, k < 101 → jv 119 k = lN (G k)) (hB : IB G) (h : ¬ isA G x y) : XM (d + 4) Ym_answer [.ref 118, .int x, .int y] iv jv Q = Q (some (.int (-2))) (mk iv jv) := by
  have hb := hB.1
  have h29 := hG 29 (by decide)
  unfold isA isIt i01 at h
  by_cases p1 : 0 ≤ x.toInt ∧ x.toInt < (G 29 : Int) <;> by_cases p2 : ((0 : Nat) : Int) ≤ y.toInt ∧ y.toInt ≤ ((1 : Nat) : Int) <;>
  first
  | (exfalso; omega)
  | (simp (disch := first | assumption | omega) only [e_m_answer, x_m_answer_0, x_m_answer_1, x_m_answer_2, x_m_answer_5, x_m_answer_8, x_m_answer_9, x_m_answer_10, x_m_answer_11, x_m_answer_12, x_m_answer_15, x_m_answer_18, x_m_answer_20, x_m_answer_21, x_m_answer_22, x_m_answer_25, x_m_answer_28, x_m_answer_29, x_m_answer_32, x_m_answer_34, x_m_answer_35, x_m_answer_36, x_m_answer_39, x_m_answer_42, x_m_answer_43, x_m_answer_46, x_m_answer_47, x_m_answer_48, x_m_answer_51, x_m_answer_54, x_m_answer_55, x_m_answer_56, x_m_answer_59, x_m_answer_60, x_m_answer_61, x_m_answer_62, x_m_answer_65, x_m_answer_68, x_m_answer_69, x_m_answer_70, x_m_answer_73, x_m_answer_75, x_m_answer_76, x_m_answer_77, x_m_answer_78, x_m_answer_81, x_m_answer_82, x_m_answer_83, x_m_answer_84, x_m_answer_87, x_m_answer_89, x_m_answer_90, x_m_answer_91, x_m_answer_92, x_m_answer_93, x_m_answer_96, x_m_answer_97, x_m_answer_100, sp_isInI, sp_m_isItem, XK_s, b01_eq0, p1, p2, not_false_eq_true, not_true_eq_false, if_true, if_false, and_self])
theorem sp_m_answer {i r : Nat} (hi : i < G 29) (hr : r < 2) (hG : ∀ k, k < 101 → jv 119 k = lN (G k)) (hB : IB G) (hD : DS G) (h0 : mayA G i = false → Q (some (.int (-3))) (mk iv jv)) (hQ : mayA G i = true → ∀ jv', (∀ k, k < 101 → jv' 119 k = lN (asG G i r k)) → (∀ q k, q ≠ 119 → jv' q k = jv q k) → Q (some (.int (nI (G 36 + 1)))) (mk iv jv')) : XM (d + 4) Ym_answer [.ref 118, .int (nI i), .int (nI r)] iv jv Q := by
  have hb := hB.1
  have h29 := hG 29 (by decide)
  have h35 := hG 35 (by decide)
  have g34 := hG 34 (by decide)
  have b13 : G 34 ≤ 1 := hB.2.2.2.2.2.2.2.2.2.2.2.2
  have b35 := hB.2.2.1
  have hi8 : i < 8 := by omega
  have hr1 : r ≤ 1 := by omega
  have hA := askB_lt (fun k hk => (hB.2.2.2.2.1 k hk).1) _ hB.2.1
  have b4 := (hB.2.2.2.1 i hi8).2.1
  have g1 := hG (37 + 6 * i + 1) (by omega)
  have b7 := (hB.2.2.2.2.2.2.1 (G (37 + 6 * i + 1)) (by omega)).2
  have g2 := hG (21 + G (37 + 6 * i + 1)) (by omega)
  have i0 := inA_le G (askB G (G 36)) (G (37 + 6 * i + 1)) (G 29)
  have eK : inA G (askB G (G 36)) (G (37 + 6 * i + 1)) (G 29) = inK G (G (37 + 6 * i + 1)) := rfl
  by_cases p1 : G 34 = 1
  · by_cases p2 : (G 35).testBit i = true
    · have e : mayA G i = false := by unfold mayA; rw [p2]; simp
      have h0 := h0 e
      simp (disch := first | assumption | omega) only [e_m_answer, x_m_answer_0, x_m_answer_1, x_m_answer_2, x_m_answer_5, x_m_answer_8, x_m_answer_9, x_m_answer_10, x_m_answer_11, x_m_answer_12, x_m_answer_15, x_m_answer_18, x_m_answer_20, x_m_answer_21, x_m_answer_22, x_m_answer_25, x_m_answer_28, x_m_answer_29, x_m_answer_32, x_m_answer_34, x_m_answer_35, x_m_answer_36, x_m_answer_39, x_m_answer_42, x_m_answer_43, x_m_answer_46, x_m_answer_47, x_m_answer_48, x_m_answer_51, x_m_answer_54, x_m_answer_55, x_m_answer_56, x_m_answer_59, x_m_answer_60, x_m_answer_61, x_m_answer_62, x_m_answer_65, x_m_answer_68, x_m_answer_69, x_m_answer_70, x_m_answer_73, x_m_answer_75, x_m_answer_76, x_m_answer_77, x_m_answer_78, x_m_answer_81, x_m_answer_82, x_m_answer_83, x_m_answer_84, x_m_answer_87, x_m_answer_89, x_m_answer_90, x_m_answer_91, x_m_answer_92, x_m_answer_93, x_m_answer_96, x_m_answer_97, x_m_answer_100, sp_isItemN, q_i2l, sp_isInN, XK_s, b01_eq0, hi, hr1, Nat.zero_le, and_self, not_true_eq_false, not_false_eq_true, if_false, if_true, sp_m_isOn g34 b13, p1, q_in, q_tn, true_and, h35, sp_m_has, p2]
      exact h0
    · by_cases p3 : (askB G (G 36)).testBit i = true
      · have e : mayA G i = false := by unfold mayA; rw [p3]; simp
        have h0 := h0 e
        simp (disch := first | assumption | omega) only [e_m_answer, x_m_answer_0, x_m_answer_1, x_m_answer_2, x_m_answer_5, x_m_answer_8, x_m_answer_9, x_m_answer_10, x_m_answer_11, x_m_answer_12, x_m_answer_15, x_m_answer_18, x_m_answer_20, x_m_answer_21, x_m_answer_22, x_m_answer_25, x_m_answer_28, x_m_answer_29, x_m_answer_32, x_m_answer_34, x_m_answer_35, x_m_answer_36, x_m_answer_39, x_m_answer_42, x_m_answer_43, x_m_answer_46, x_m_answer_47, x_m_answer_48, x_m_answer_51, x_m_answer_54, x_m_answer_55, x_m_answer_56, x_m_answer_59, x_m_answer_60, x_m_answer_61, x_m_answer_62, x_m_answer_65, x_m_answer_68, x_m_answer_69, x_m_answer_70, x_m_answer_73, x_m_answer_75, x_m_answer_76, x_m_answer_77, x_m_answer_78, x_m_answer_81, x_m_answer_82, x_m_answer_83, x_m_answer_84, x_m_answer_87, x_m_answer_89, x_m_answer_90, x_m_answer_91, x_m_answer_92, x_m_answer_93, x_m_answer_96, x_m_answer_97, x_m_answer_100, sp_isItemN, q_i2l, sp_isInN, XK_s, b01_eq0, hi, hr1, Nat.zero_le, and_self, not_true_eq_false, not_false_eq_true, if_false, if_true, sp_m_isOn g34 b13, p1, q_in, q_tn, true_and, h35, sp_m_has, p2, p3, sp_m_asked hG hB, Bool.false_eq_true]
        exact h0
      · by_cases p4 : inK G (G (37 + 6 * i + 1)) < G (21 + G (37 + 6 * i + 1))
        · have p4' : ¬ G (21 + G (37 + 6 * i + 1)) ≤ inK G (G (37 + 6 * i + 1)) := by omega
          have e : mayA G i = true := by unfold mayA; simp [p1, p2, p3, p4]
          have hQ := hQ e
          have hfr : (askB G (G 36)).testBit i = false := by simpa using p3
          simp (disch := first | assumption | omega) only [e_m_answer, x_m_answer_0, x_m_answer_1, x_m_answer_2, x_m_answer_5, x_m_answer_8, x_m_answer_9, x_m_answer_10, x_m_answer_11, x_m_answer_12, x_m_answer_15, x_m_answer_18, x_m_answer_20, x_m_answer_21, x_m_answer_22, x_m_answer_25, x_m_answer_28, x_m_answer_29, x_m_answer_32, x_m_answer_34, x_m_answer_35, x_m_answer_36, x_m_answer_39, x_m_answer_42, x_m_answer_43, x_m_answer_46, x_m_answer_47, x_m_answer_48, x_m_answer_51, x_m_answer_54, x_m_answer_55, x_m_answer_56, x_m_answer_59, x_m_answer_60, x_m_answer_61, x_m_answer_62, x_m_answer_65, x_m_answer_68, x_m_answer_69, x_m_answer_70, x_m_answer_73, x_m_answer_75, x_m_answer_76, x_m_answer_77, x_m_answer_78, x_m_answer_81, x_m_answer_82, x_m_answer_83, x_m_answer_84, x_m_answer_87, x_m_answer_89, x_m_answer_90, x_m_answer_91, x_m_answer_92, x_m_answer_93, x_m_answer_96, x_m_answer_97, x_m_answer_100, sp_isItemN, q_i2l, sp_isInN, XK_s, b01_eq0, hi, hr1, Nat.zero_le, and_self, not_true_eq_false, not_false_eq_true, if_false, if_true, sp_m_isOn g34 b13, p1, q_in, q_tn, true_and, h35, sp_m_has, p2, p3, sp_m_asked hG hB, Bool.false_eq_true, sp_m_of, g1, q_l2i, sp_m_inArea hG hB, q_add, g2, c_lt, c_ge, q_lle, q_llt, eK, p4, p4']
          refine sp_m_asks hG hi8 hr (free_36 hB hD hi8 hfr) (fun jv' hG' hF => ?_)
          have hA2 := fun Q : Option Value → mH → Prop => sp_m_answers (d := d + 1) (iv := iv) (Q := Q) hG'
          rw [asG_36] at hA2
          simp (disch := first | assumption | omega) only [XK_n, XK_s, x_m_answer_0, x_m_answer_1, x_m_answer_2, x_m_answer_5, x_m_answer_8, x_m_answer_9, x_m_answer_10, x_m_answer_11, x_m_answer_12, x_m_answer_15, x_m_answer_18, x_m_answer_20, x_m_answer_21, x_m_answer_22, x_m_answer_25, x_m_answer_28, x_m_answer_29, x_m_answer_32, x_m_answer_34, x_m_answer_35, x_m_answer_36, x_m_answer_39, x_m_answer_42, x_m_answer_43, x_m_answer_46, x_m_answer_47, x_m_answer_48, x_m_answer_51, x_m_answer_54, x_m_answer_55, x_m_answer_56, x_m_answer_59, x_m_answer_60, x_m_answer_61, x_m_answer_62, x_m_answer_65, x_m_answer_68, x_m_answer_69, x_m_answer_70, x_m_answer_73, x_m_answer_75, x_m_answer_76, x_m_answer_77, x_m_answer_78, x_m_answer_81, x_m_answer_82, x_m_answer_83, x_m_answer_84, x_m_answer_87, x_m_answer_89, x_m_answer_90, x_m_answer_91, x_m_answer_92, x_m_answer_93, x_m_answer_96, x_m_answer_97, x_m_answer_100, hA2]
          exact hQ jv' hG' hF
        · have p4' : G (21 + G (37 + 6 * i + 1)) ≤ inK G (G (37 + 6 * i + 1)) := by omega
          have e : mayA G i = false := by unfold mayA; simp [p4]
          have h0 := h0 e
          simp (disch := first | assumption | omega) only [e_m_answer, x_m_answer_0, x_m_answer_1, x_m_answer_2, x_m_answer_5, x_m_answer_8, x_m_answer_9, x_m_answer_10, x_m_answer_11, x_m_answer_12, x_m_answer_15, x_m_answer_18, x_m_answer_20, x_m_answer_21, x_m_answer_22, x_m_answer_25, x_m_answer_28, x_m_answer_29, x_m_answer_32, x_m_answer_34, x_m_answer_35, x_m_answer_36, x_m_answer_39, x_m_answer_42, x_m_answer_43, x_m_answer_46, x_m_answer_47, x_m_answer_48, x_m_answer_51, x_m_answer_54, x_m_answer_55, x_m_answer_56, x_m_answer_59, x_m_answer_60, x_m_answer_61, x_m_answer_62, x_m_answer_65, x_m_answer_68, x_m_answer_69, x_m_answer_70, x_m_answer_73, x_m_answer_75, x_m_answer_76, x_m_answer_77, x_m_answer_78, x_m_answer_81, x_m_answer_82, x_m_answer_83, x_m_answer_84, x_m_answer_87, x_m_answer_89, x_m_answer_90, x_m_answer_91, x_m_answer_92, x_m_answer_93, x_m_answer_96, x_m_answer_97, x_m_answer_100, sp_isItemN, q_i2l, sp_isInN, XK_s, b01_eq0, hi, hr1, Nat.zero_le, and_self, not_true_eq_false, not_false_eq_true, if_false, if_true, sp_m_isOn g34 b13, p1, q_in, q_tn, true_and, h35, sp_m_has, p2, p3, sp_m_asked hG hB, Bool.false_eq_true, sp_m_of, g1, q_l2i, sp_m_inArea hG hB, q_add, g2, c_lt, c_ge, q_lle, q_llt, eK, p4, p4']
          exact h0
  · have e : mayA G i = false := by unfold mayA; simp [p1]
    have h0 := h0 e
    simp (disch := first | assumption | omega) only [e_m_answer, x_m_answer_0, x_m_answer_1, x_m_answer_2, x_m_answer_5, x_m_answer_8, x_m_answer_9, x_m_answer_10, x_m_answer_11, x_m_answer_12, x_m_answer_15, x_m_answer_18, x_m_answer_20, x_m_answer_21, x_m_answer_22, x_m_answer_25, x_m_answer_28, x_m_answer_29, x_m_answer_32, x_m_answer_34, x_m_answer_35, x_m_answer_36, x_m_answer_39, x_m_answer_42, x_m_answer_43, x_m_answer_46, x_m_answer_47, x_m_answer_48, x_m_answer_51, x_m_answer_54, x_m_answer_55, x_m_answer_56, x_m_answer_59, x_m_answer_60, x_m_answer_61, x_m_answer_62, x_m_answer_65, x_m_answer_68, x_m_answer_69, x_m_answer_70, x_m_answer_73, x_m_answer_75, x_m_answer_76, x_m_answer_77, x_m_answer_78, x_m_answer_81, x_m_answer_82, x_m_answer_83, x_m_answer_84, x_m_answer_87, x_m_answer_89, x_m_answer_90, x_m_answer_91, x_m_answer_92, x_m_answer_93, x_m_answer_96, x_m_answer_97, x_m_answer_100, sp_isItemN, q_i2l, sp_isInN, XK_s, b01_eq0, hi, hr1, Nat.zero_le, and_self, not_true_eq_false, not_false_eq_true, if_false, if_true, sp_m_isOn g34 b13, p1]
    exact h0
end MUT3
