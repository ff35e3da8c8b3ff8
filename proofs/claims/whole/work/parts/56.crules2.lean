section CRULES2
variable {d : Nat} {iv : mI} {jv : mJ} {Q : Option Value → mH → Prop} {G : Nat → Nat} {B : Nat}
theorem lp_o_isClear {x1 : Int32} (hb : isB B) (hC : CR B G iv jv) (hB : IB G) (hon : G 34 = 1) : ∀ n k, k + n = G 36 → XT d Yo_isClear 17 [.ref B, .int x1, .int (nI k)] [] iv jv Q = Q (some (.int (b01 (clR G (mdN G) n k = true)))) (mk iv jv) := by
  obtain ⟨⟨c4, c5, c6, c7, c9, c11, c14⟩, cp, ca, cb, cw, ck, cm, ci, ch⟩ := hC
  obtain ⟨s0, s1, s2, s3, s4, s5, s6, s7, s8, s9, s10, s11⟩ := sB hb
  have n10' := ne1001 (k := 10) hb (by decide)
  have b36 := hB.2.1
  have cm := cm hon
  have ml := cm (G 36) (Nat.le_refl _)
  have hmd := mdN_le G
  rw [show mdF (wt G (G 36)) 8 = mdN G from rfl] at ml
  intro n
  induction n with
  | zero =>
    intro k hk
    obtain rfl : k = G 36 := by omega
    rw [x_o_isClear_17]
    simp (disch := first | assumption | omega) only [x_o_isClear_0, x_o_isClear_1, x_o_isClear_4, x_o_isClear_5, x_o_isClear_8, x_o_isClear_9, x_o_isClear_10, x_o_isClear_11, x_o_isClear_14, x_o_isClear_15, x_o_isClear_16, x_o_isClear_18, x_o_isClear_19, x_o_isClear_22, x_o_isClear_25, x_o_isClear_26, x_o_isClear_29, x_o_isClear_30, x_o_isClear_31, x_o_isClear_32, x_o_isClear_35, x_o_isClear_36, x_o_isClear_39, x_o_isClear_40, x_o_isClear_43, x_o_isClear_44, x_o_isClear_45, x_o_isClear_48, x_o_isClear_51, x_o_isClear_52, s0, true_and, c14, q_le, Nat.le_refl, if_true]
    rfl
  | succ n ih =>
    intro k hk
    have h4 : ¬ G 36 ≤ k := by omega
    have mk' := cm k (by omega)
    have hmk := mdF_le (wt G k) 8
    have h8 := ih (k + 1) (by omega)
    rw [clR_s, x_o_isClear_17]
    by_cases p : mdF (wt G k) 8 = mdN G
    · rw [decide_eq_true p, Bool.true_and, ← h8]
      simp (disch := first | assumption | omega) only [x_o_isClear_0, x_o_isClear_1, x_o_isClear_4, x_o_isClear_5, x_o_isClear_8, x_o_isClear_9, x_o_isClear_10, x_o_isClear_11, x_o_isClear_14, x_o_isClear_15, x_o_isClear_16, x_o_isClear_18, x_o_isClear_19, x_o_isClear_22, x_o_isClear_25, x_o_isClear_26, x_o_isClear_29, x_o_isClear_30, x_o_isClear_31, x_o_isClear_32, x_o_isClear_35, x_o_isClear_36, x_o_isClear_39, x_o_isClear_40, x_o_isClear_43, x_o_isClear_44, x_o_isClear_45, x_o_isClear_48, x_o_isClear_51, x_o_isClear_52, s0, s10, n10', true_and, true_or, c14, q_le, h4, if_false, q_in, q_tn, mk', ml, q_eq, eq_true p, if_true, q_add]
    · rw [decide_eq_false p, Bool.false_and, b01_f (by decide)]
      simp (disch := first | assumption | omega) only [x_o_isClear_0, x_o_isClear_1, x_o_isClear_4, x_o_isClear_5, x_o_isClear_8, x_o_isClear_9, x_o_isClear_10, x_o_isClear_11, x_o_isClear_14, x_o_isClear_15, x_o_isClear_16, x_o_isClear_18, x_o_isClear_19, x_o_isClear_22, x_o_isClear_25, x_o_isClear_26, x_o_isClear_29, x_o_isClear_30, x_o_isClear_31, x_o_isClear_32, x_o_isClear_35, x_o_isClear_36, x_o_isClear_39, x_o_isClear_40, x_o_isClear_43, x_o_isClear_44, x_o_isClear_45, x_o_isClear_48, x_o_isClear_51, x_o_isClear_52, s0, s10, n10', true_and, true_or, c14, q_le, h4, if_false, q_in, q_tn, mk', ml, q_eq, eq_false p]
theorem sp_o_isClear (hb : isB B) (hC : CR B G iv jv) (hB : IB G) (hon : G 34 = 1) : XM (d + 1) Yo_isClear [.ref B, .int (nI (G 28))] iv jv Q = Q (some (.int (rlV G 4))) (mk iv jv) := by
  obtain ⟨⟨c4, c5, c6, c7, c9, c11, c14⟩, cp, ca, cb, cw, ck, cm, ci, ch⟩ := id hC
  obtain ⟨s0, s1, s2, s3, s4, s5, s6, s7, s8, s9, s10, s11⟩ := sB hb
  have b36 := hB.2.1
  have b8 := hB.2.2.2.2.2.2.2.1 4 (by decide)
  simp only [Nat.reduceAdd] at b8
  have er : rlV G 4 = b01 (clN G = true) := rfl
  rw [er]
  unfold clN
  by_cases p : G 28 ≤ G 36
  · have p' : ¬ G 36 < G 28 := by omega
    rw [decide_eq_true p, Bool.true_and]
    simp (disch := first | assumption | omega) only [e_o_isClear, x_o_isClear_0, x_o_isClear_1, x_o_isClear_4, x_o_isClear_5, x_o_isClear_8, x_o_isClear_9, x_o_isClear_10, x_o_isClear_11, x_o_isClear_14, x_o_isClear_15, x_o_isClear_16, x_o_isClear_18, x_o_isClear_19, x_o_isClear_22, x_o_isClear_25, x_o_isClear_26, x_o_isClear_29, x_o_isClear_30, x_o_isClear_31, x_o_isClear_32, x_o_isClear_35, x_o_isClear_36, x_o_isClear_39, x_o_isClear_40, x_o_isClear_43, x_o_isClear_44, x_o_isClear_45, x_o_isClear_48, x_o_isClear_51, x_o_isClear_52, s0, true_and, c14, q_le, q_lt, p, p', if_true, if_false, q_sub]
    exact lp_o_isClear hb hC hB hon (G 28) (G 36 - G 28) (by omega)
  · have p' : G 36 < G 28 := by omega
    rw [decide_eq_false p, Bool.false_and, b01_f (by decide)]
    simp (disch := first | assumption | omega) only [e_o_isClear, x_o_isClear_0, x_o_isClear_1, x_o_isClear_4, x_o_isClear_5, x_o_isClear_8, x_o_isClear_9, x_o_isClear_10, x_o_isClear_11, x_o_isClear_14, x_o_isClear_15, x_o_isClear_16, x_o_isClear_18, x_o_isClear_19, x_o_isClear_22, x_o_isClear_25, x_o_isClear_26, x_o_isClear_29, x_o_isClear_30, x_o_isClear_31, x_o_isClear_32, x_o_isClear_35, x_o_isClear_36, x_o_isClear_39, x_o_isClear_40, x_o_isClear_43, x_o_isClear_44, x_o_isClear_45, x_o_isClear_48, x_o_isClear_51, x_o_isClear_52, s0, true_and, c14, q_le, q_lt, p, p', if_true, if_false]
theorem sp_o_ruleSays {r : Nat} (hr : r < 5) (hb : isB B) (hC : CR B G iv jv) (hB : IB G) (hon : G 34 = 1) : XM (d + 4) Yo_ruleSays [.ref B, .int (nI r)] iv jv Q = Q (some (.int (rlV G r))) (mk iv jv) := by
  obtain ⟨⟨c4, c5, c6, c7, c9, c11, c14⟩, cp, ca, cb, cw, ck, cm, ci, ch⟩ := id hC
  obtain ⟨s0, s1, s2, s3, s4, s5, s6, s7, s8, s9, s10, s11⟩ := sB hb
  have n4 := ne1001 (k := 4) hb (by decide)
  have b36 := hB.2.1
  have b8 := hB.2.2.2.2.2.2.2.1 0 (by decide)
  simp only [Nat.reduceAdd] at b8
  have d0 := cb 0 (by decide)
  have d1 := cb 1 (by decide)
  have d2 := cb 2 (by decide)
  have d3 := cb 3 (by decide)
  have d4 := cb 4 (by decide)
  simp only [Nat.reduceAdd] at d0 d1 d2 d3 d4
  match r, hr with
  | 0, _ =>
    have e : rlV G 0 = b01 (G 24 ≤ G 36) := rfl
    rw [e]
    by_cases p : G 24 ≤ G 36
    · have p' : ¬ G 36 < G 24 := by omega
      rw [b01_t p]
      simp (disch := first | assumption | omega) only [e_o_ruleSays, x_o_ruleSays_0, x_o_ruleSays_1, x_o_ruleSays_4, x_o_ruleSays_5, x_o_ruleSays_6, x_o_ruleSays_7, x_o_ruleSays_8_0, x_o_ruleSays_8_1, x_o_ruleSays_8_2, x_o_ruleSays_8_3, x_o_ruleSays_40, x_o_ruleSays_41, x_o_ruleSays_44, x_o_ruleSays_45, x_o_ruleSays_48, x_o_ruleSays_49, x_o_ruleSays_52, x_o_ruleSays_53, x_o_ruleSays_54, x_o_ruleSays_55, x_o_ruleSays_56, x_o_ruleSays_59, x_o_ruleSays_60, x_o_ruleSays_61, x_o_ruleSays_62, x_o_ruleSays_65, x_o_ruleSays_66, x_o_ruleSays_67, x_o_ruleSays_68, x_o_ruleSays_71, x_o_ruleSays_72, x_o_ruleSays_73, x_o_ruleSays_74, x_o_ruleSays_77, s0, s4, n4, true_and, true_or, if_false, q_in, q_tn, d0, c14, q_le, q_lt, p, p', if_true]
    · have p' : G 36 < G 24 := by omega
      rw [b01_f p]
      simp (disch := first | assumption | omega) only [e_o_ruleSays, x_o_ruleSays_0, x_o_ruleSays_1, x_o_ruleSays_4, x_o_ruleSays_5, x_o_ruleSays_6, x_o_ruleSays_7, x_o_ruleSays_8_0, x_o_ruleSays_8_1, x_o_ruleSays_8_2, x_o_ruleSays_8_3, x_o_ruleSays_40, x_o_ruleSays_41, x_o_ruleSays_44, x_o_ruleSays_45, x_o_ruleSays_48, x_o_ruleSays_49, x_o_ruleSays_52, x_o_ruleSays_53, x_o_ruleSays_54, x_o_ruleSays_55, x_o_ruleSays_56, x_o_ruleSays_59, x_o_ruleSays_60, x_o_ruleSays_61, x_o_ruleSays_62, x_o_ruleSays_65, x_o_ruleSays_66, x_o_ruleSays_67, x_o_ruleSays_68, x_o_ruleSays_71, x_o_ruleSays_72, x_o_ruleSays_73, x_o_ruleSays_74, x_o_ruleSays_77, s0, s4, n4, true_and, true_or, if_false, q_in, q_tn, d0, c14, q_le, q_lt, p, p', if_true]
  | 1, _ =>
    simp (disch := first | assumption | omega) only [e_o_ruleSays, x_o_ruleSays_0, x_o_ruleSays_1, x_o_ruleSays_4, x_o_ruleSays_5, x_o_ruleSays_6, x_o_ruleSays_7, x_o_ruleSays_8_0, x_o_ruleSays_8_1, x_o_ruleSays_8_2, x_o_ruleSays_8_3, x_o_ruleSays_40, x_o_ruleSays_41, x_o_ruleSays_44, x_o_ruleSays_45, x_o_ruleSays_48, x_o_ruleSays_49, x_o_ruleSays_52, x_o_ruleSays_53, x_o_ruleSays_54, x_o_ruleSays_55, x_o_ruleSays_56, x_o_ruleSays_59, x_o_ruleSays_60, x_o_ruleSays_61, x_o_ruleSays_62, x_o_ruleSays_65, x_o_ruleSays_66, x_o_ruleSays_67, x_o_ruleSays_68, x_o_ruleSays_71, x_o_ruleSays_72, x_o_ruleSays_73, x_o_ruleSays_74, x_o_ruleSays_77, s0, s4, n4, true_and, true_or, if_false, q_in, q_tn, d1, sp_o_isSure hb hC hB, XK_s]
  | 2, _ =>
    simp (disch := first | assumption | omega) only [e_o_ruleSays, x_o_ruleSays_0, x_o_ruleSays_1, x_o_ruleSays_4, x_o_ruleSays_5, x_o_ruleSays_6, x_o_ruleSays_7, x_o_ruleSays_8_0, x_o_ruleSays_8_1, x_o_ruleSays_8_2, x_o_ruleSays_8_3, x_o_ruleSays_40, x_o_ruleSays_41, x_o_ruleSays_44, x_o_ruleSays_45, x_o_ruleSays_48, x_o_ruleSays_49, x_o_ruleSays_52, x_o_ruleSays_53, x_o_ruleSays_54, x_o_ruleSays_55, x_o_ruleSays_56, x_o_ruleSays_59, x_o_ruleSays_60, x_o_ruleSays_61, x_o_ruleSays_62, x_o_ruleSays_65, x_o_ruleSays_66, x_o_ruleSays_67, x_o_ruleSays_68, x_o_ruleSays_71, x_o_ruleSays_72, x_o_ruleSays_73, x_o_ruleSays_74, x_o_ruleSays_77, s0, s4, n4, true_and, true_or, if_false, q_in, q_tn, d2, sp_o_isNarrow hb hC hB, XK_s]
  | 3, _ =>
    simp (disch := first | assumption | omega) only [e_o_ruleSays, x_o_ruleSays_0, x_o_ruleSays_1, x_o_ruleSays_4, x_o_ruleSays_5, x_o_ruleSays_6, x_o_ruleSays_7, x_o_ruleSays_8_0, x_o_ruleSays_8_1, x_o_ruleSays_8_2, x_o_ruleSays_8_3, x_o_ruleSays_40, x_o_ruleSays_41, x_o_ruleSays_44, x_o_ruleSays_45, x_o_ruleSays_48, x_o_ruleSays_49, x_o_ruleSays_52, x_o_ruleSays_53, x_o_ruleSays_54, x_o_ruleSays_55, x_o_ruleSays_56, x_o_ruleSays_59, x_o_ruleSays_60, x_o_ruleSays_61, x_o_ruleSays_62, x_o_ruleSays_65, x_o_ruleSays_66, x_o_ruleSays_67, x_o_ruleSays_68, x_o_ruleSays_71, x_o_ruleSays_72, x_o_ruleSays_73, x_o_ruleSays_74, x_o_ruleSays_77, s0, s4, n4, true_and, true_or, if_false, q_in, q_tn, d3, sp_o_isPoor hb hC hB, XK_s]
  | 4, _ =>
    have hd : (nI 4).toInt < 0 ∨ 3 < (nI 4).toInt := by decide
    simp (disch := first | assumption | omega) only [e_o_ruleSays, x_o_ruleSays_0, x_o_ruleSays_1, x_o_ruleSays_4, x_o_ruleSays_5, x_o_ruleSays_6, x_o_ruleSays_7, x_o_ruleSays_8_0, x_o_ruleSays_8_1, x_o_ruleSays_8_2, x_o_ruleSays_8_3, x_o_ruleSays_40, x_o_ruleSays_41, x_o_ruleSays_44, x_o_ruleSays_45, x_o_ruleSays_48, x_o_ruleSays_49, x_o_ruleSays_52, x_o_ruleSays_53, x_o_ruleSays_54, x_o_ruleSays_55, x_o_ruleSays_56, x_o_ruleSays_59, x_o_ruleSays_60, x_o_ruleSays_61, x_o_ruleSays_62, x_o_ruleSays_65, x_o_ruleSays_66, x_o_ruleSays_67, x_o_ruleSays_68, x_o_ruleSays_71, x_o_ruleSays_72, x_o_ruleSays_73, x_o_ruleSays_74, x_o_ruleSays_77, s0, s4, n4, true_and, true_or, if_false, q_in, q_tn, d4]
    rw [x_o_ruleSays_8_d hd]
    simp (disch := first | assumption | omega) only [x_o_ruleSays_0, x_o_ruleSays_1, x_o_ruleSays_4, x_o_ruleSays_5, x_o_ruleSays_6, x_o_ruleSays_7, x_o_ruleSays_8_0, x_o_ruleSays_8_1, x_o_ruleSays_8_2, x_o_ruleSays_8_3, x_o_ruleSays_40, x_o_ruleSays_41, x_o_ruleSays_44, x_o_ruleSays_45, x_o_ruleSays_48, x_o_ruleSays_49, x_o_ruleSays_52, x_o_ruleSays_53, x_o_ruleSays_54, x_o_ruleSays_55, x_o_ruleSays_56, x_o_ruleSays_59, x_o_ruleSays_60, x_o_ruleSays_61, x_o_ruleSays_62, x_o_ruleSays_65, x_o_ruleSays_66, x_o_ruleSays_67, x_o_ruleSays_68, x_o_ruleSays_71, x_o_ruleSays_72, x_o_ruleSays_73, x_o_ruleSays_74, x_o_ruleSays_77, s0, true_and, sp_o_isClear hb hC hB hon, XK_s]
theorem bit_hasI : ∀ s, s < 256 → ∀ k, k < 8 → (nI s >>> (nI k &&& 31)) &&& nI 1 = b01 (s.testBit k = true) := by decide +kernel
theorem lp_o_isOver2 (hb : isB B) (hC : CR B G iv jv) (hB : IB G) (hon : G 34 = 1) : ∀ n r, r + n = 5 → ∀ u2, XT (d + 4) Yo_isOver 44 [.ref B, .int (nI r), u2] [] iv jv Q = Q (some (.int (stR G n r))) (mk iv jv) := by
  obtain ⟨⟨c4, c5, c6, c7, c9, c11, c14⟩, cp, ca, cb, cw, ck, cm, ci, ch⟩ := id hC
  obtain ⟨s0, s1, s2, s3, s4, s5, s6, s7, s8, s9, s10, s11⟩ := sB hb
  have b11 := hB.2.2.2.2.2.2.2.2.2.2.1
  intro n
  induction n with
  | zero =>
    intro r hr u2
    obtain rfl : r = 5 := by omega
    rw [x_o_isOver_44]
    simp (disch := first | assumption | omega) only [x_o_isOver_0, x_o_isOver_1, x_o_isOver_3, x_o_isOver_4, x_o_isOver_7, x_o_isOver_8, x_o_isOver_9, x_o_isOver_12, x_o_isOver_13, x_o_isOver_16, x_o_isOver_17, x_o_isOver_18, x_o_isOver_21, x_o_isOver_22, x_o_isOver_23, x_o_isOver_26, x_o_isOver_29, x_o_isOver_30, x_o_isOver_33, x_o_isOver_34, x_o_isOver_37, x_o_isOver_40, x_o_isOver_41, x_o_isOver_42, x_o_isOver_43, x_o_isOver_45, x_o_isOver_46, x_o_isOver_49, x_o_isOver_50, x_o_isOver_53, x_o_isOver_54, x_o_isOver_55, x_o_isOver_56, x_o_isOver_57, x_o_isOver_60, x_o_isOver_63, x_o_isOver_64, x_o_isOver_65, x_o_isOver_68, x_o_isOver_69, x_o_isOver_70, x_o_isOver_73, x_o_isOver_74, x_o_isOver_75, x_o_isOver_78, x_o_isOver_81, x_o_isOver_82, q_le, Nat.le_refl, if_true]
    rfl
  | succ n ih =>
    intro r hr u2
    have h4 : ¬ 5 ≤ r := by omega
    have hbit := bit_hasI (G 32) (by omega) r (by omega)
    have h8 := ih (r + 1) (by omega)
    have hsay := fun (Q : Option Value → mH → Prop) => sp_o_ruleSays (d := d) (iv := iv) (jv := jv) (Q := Q) (r := r) (by omega) hb hC hB hon
    rw [stR_s, x_o_isOver_44]
    by_cases p : (G 32).testBit r = true
    · rw [if_pos p]
      by_cases p2 : rlV G r = nI 0
      · rw [if_pos p2, ← h8 (.int (nI 0))]
        simp (disch := first | assumption | omega) only [x_o_isOver_0, x_o_isOver_1, x_o_isOver_3, x_o_isOver_4, x_o_isOver_7, x_o_isOver_8, x_o_isOver_9, x_o_isOver_12, x_o_isOver_13, x_o_isOver_16, x_o_isOver_17, x_o_isOver_18, x_o_isOver_21, x_o_isOver_22, x_o_isOver_23, x_o_isOver_26, x_o_isOver_29, x_o_isOver_30, x_o_isOver_33, x_o_isOver_34, x_o_isOver_37, x_o_isOver_40, x_o_isOver_41, x_o_isOver_42, x_o_isOver_43, x_o_isOver_45, x_o_isOver_46, x_o_isOver_49, x_o_isOver_50, x_o_isOver_53, x_o_isOver_54, x_o_isOver_55, x_o_isOver_56, x_o_isOver_57, x_o_isOver_60, x_o_isOver_63, x_o_isOver_64, x_o_isOver_65, x_o_isOver_68, x_o_isOver_69, x_o_isOver_70, x_o_isOver_73, x_o_isOver_74, x_o_isOver_75, x_o_isOver_78, x_o_isOver_81, x_o_isOver_82, q_le, h4, if_false, s0, true_and, c4, hbit, b01_eq0, eq_true p, not_true_eq_false, hsay, XK_s, eq_true p2, if_true, q_add, p2]
      · rw [if_neg p2]
        simp (disch := first | assumption | omega) only [x_o_isOver_0, x_o_isOver_1, x_o_isOver_3, x_o_isOver_4, x_o_isOver_7, x_o_isOver_8, x_o_isOver_9, x_o_isOver_12, x_o_isOver_13, x_o_isOver_16, x_o_isOver_17, x_o_isOver_18, x_o_isOver_21, x_o_isOver_22, x_o_isOver_23, x_o_isOver_26, x_o_isOver_29, x_o_isOver_30, x_o_isOver_33, x_o_isOver_34, x_o_isOver_37, x_o_isOver_40, x_o_isOver_41, x_o_isOver_42, x_o_isOver_43, x_o_isOver_45, x_o_isOver_46, x_o_isOver_49, x_o_isOver_50, x_o_isOver_53, x_o_isOver_54, x_o_isOver_55, x_o_isOver_56, x_o_isOver_57, x_o_isOver_60, x_o_isOver_63, x_o_isOver_64, x_o_isOver_65, x_o_isOver_68, x_o_isOver_69, x_o_isOver_70, x_o_isOver_73, x_o_isOver_74, x_o_isOver_75, x_o_isOver_78, x_o_isOver_81, x_o_isOver_82, q_le, h4, if_false, s0, true_and, c4, hbit, b01_eq0, eq_true p, not_true_eq_false, hsay, XK_s, eq_false p2]
    · rw [if_neg p, ← h8 u2]
      simp (disch := first | assumption | omega) only [x_o_isOver_0, x_o_isOver_1, x_o_isOver_3, x_o_isOver_4, x_o_isOver_7, x_o_isOver_8, x_o_isOver_9, x_o_isOver_12, x_o_isOver_13, x_o_isOver_16, x_o_isOver_17, x_o_isOver_18, x_o_isOver_21, x_o_isOver_22, x_o_isOver_23, x_o_isOver_26, x_o_isOver_29, x_o_isOver_30, x_o_isOver_33, x_o_isOver_34, x_o_isOver_37, x_o_isOver_40, x_o_isOver_41, x_o_isOver_42, x_o_isOver_43, x_o_isOver_45, x_o_isOver_46, x_o_isOver_49, x_o_isOver_50, x_o_isOver_53, x_o_isOver_54, x_o_isOver_55, x_o_isOver_56, x_o_isOver_57, x_o_isOver_60, x_o_isOver_63, x_o_isOver_64, x_o_isOver_65, x_o_isOver_68, x_o_isOver_69, x_o_isOver_70, x_o_isOver_73, x_o_isOver_74, x_o_isOver_75, x_o_isOver_78, x_o_isOver_81, x_o_isOver_82, q_le, h4, if_false, s0, true_and, c4, hbit, b01_eq0, eq_false p, not_false_eq_true, if_true, q_add]
theorem io_a {a : Nat} (ha : a < 3) (hb : isB B) (hC : CR B G iv jv) (hB : IB G) : XT (d + 4) Yo_isOver 2 [.ref B, .int (nI a), mU] [] iv jv Q = if G (18 + a) ≤ inK G a then XT (d + 4) Yo_isOver 2 [.ref B, .int (nI (a + 1)), mU] [] iv jv Q else Q (some (.int (nI 0))) (mk iv jv) := by
  obtain ⟨⟨c4, c5, c6, c7, c9, c11, c14⟩, cp, ca, cb, cw, ck, cm, ci, ch⟩ := id hC
  obtain ⟨s0, s1, s2, s3, s4, s5, s6, s7, s8, s9, s10, s11⟩ := sB hb
  have n2 := ne1001 (k := 2) hb (by decide)
  have k0 := hB.2.2.2.2.2.2.1 a ha
  have i0 := inA_le G (askB G (G 36)) a (G 29)
  have eK : inA G (askB G (G 36)) a (G 29) = inK G a := rfl
  have b1 := hB.1
  have l0 := (ca a ha).1
  have h4 : ¬ 3 ≤ a := by omega
  rw [x_o_isOver_2]
  simp (disch := first | assumption | omega) only [x_o_isOver_0, x_o_isOver_1, x_o_isOver_3, x_o_isOver_4, x_o_isOver_7, x_o_isOver_8, x_o_isOver_9, x_o_isOver_12, x_o_isOver_13, x_o_isOver_16, x_o_isOver_17, x_o_isOver_18, x_o_isOver_21, x_o_isOver_22, x_o_isOver_23, x_o_isOver_26, x_o_isOver_29, x_o_isOver_30, x_o_isOver_33, x_o_isOver_34, x_o_isOver_37, x_o_isOver_40, x_o_isOver_41, x_o_isOver_42, x_o_isOver_43, x_o_isOver_45, x_o_isOver_46, x_o_isOver_49, x_o_isOver_50, x_o_isOver_53, x_o_isOver_54, x_o_isOver_55, x_o_isOver_56, x_o_isOver_57, x_o_isOver_60, x_o_isOver_63, x_o_isOver_64, x_o_isOver_65, x_o_isOver_68, x_o_isOver_69, x_o_isOver_70, x_o_isOver_73, x_o_isOver_74, x_o_isOver_75, x_o_isOver_78, x_o_isOver_81, x_o_isOver_82, q_le, h4, if_false, s0, s2, n2, true_and, true_or, sp_o_askedOf hb hC hB, XK_s, q_in, q_tn, l0, q_add]
theorem io_b (hb : isB B) (hC : CR B G iv jv) (hB : IB G) : XT (d + 4) Yo_isOver 2 [.ref B, .int (nI 3), mU] [] iv jv Q = if G 36 < G 30 then XT (d + 4) Yo_isOver 44 [.ref B, .int (nI 0), mU] [] iv jv Q else Q (some (.int (nI 1))) (mk iv jv) := by
  obtain ⟨⟨c4, c5, c6, c7, c9, c11, c14⟩, cp, ca, cb, cw, ck, cm, ci, ch⟩ := id hC
  obtain ⟨s0, s1, s2, s3, s4, s5, s6, s7, s8, s9, s10, s11⟩ := sB hb
  have b36 := hB.2.1
  have b30 := hB.2.2.2.2.2.2.2.2.1
  rw [x_o_isOver_2]
  simp (disch := first | assumption | omega) only [x_o_isOver_0, x_o_isOver_1, x_o_isOver_3, x_o_isOver_4, x_o_isOver_7, x_o_isOver_8, x_o_isOver_9, x_o_isOver_12, x_o_isOver_13, x_o_isOver_16, x_o_isOver_17, x_o_isOver_18, x_o_isOver_21, x_o_isOver_22, x_o_isOver_23, x_o_isOver_26, x_o_isOver_29, x_o_isOver_30, x_o_isOver_33, x_o_isOver_34, x_o_isOver_37, x_o_isOver_40, x_o_isOver_41, x_o_isOver_42, x_o_isOver_43, x_o_isOver_45, x_o_isOver_46, x_o_isOver_49, x_o_isOver_50, x_o_isOver_53, x_o_isOver_54, x_o_isOver_55, x_o_isOver_56, x_o_isOver_57, x_o_isOver_60, x_o_isOver_63, x_o_isOver_64, x_o_isOver_65, x_o_isOver_68, x_o_isOver_69, x_o_isOver_70, x_o_isOver_73, x_o_isOver_74, x_o_isOver_75, x_o_isOver_78, x_o_isOver_81, x_o_isOver_82, q_le, Nat.le_refl, if_true, s0, true_and, c14, c5, q_lt]
theorem sp_o_isOver (hb : isB B) (hC : CR B G iv jv) (hB : IB G) (hon : G 34 = 1) : XM (d + 5) Yo_isOver [.ref B] iv jv Q = Q (some (.int (stV G))) (mk iv jv) := by
  simp only [e_o_isOver, x_o_isOver_0, x_o_isOver_1]
  unfold stV
  rw [io_a (by decide) hb hC hB]
  by_cases p1 : G (18 + 0) ≤ inK G 0
  · rw [if_pos p1, io_a (by decide) hb hC hB]
    by_cases p2 : G (18 + (0 + 1)) ≤ inK G (0 + 1)
    · rw [if_pos p2, io_a (by decide) hb hC hB]
      by_cases p3 : G (18 + (0 + 1 + 1)) ≤ inK G (0 + 1 + 1)
      · rw [if_pos p3, io_b hb hC hB]
        simp only [Nat.reduceAdd] at p1 p2 p3
        rw [if_neg (show ¬ (inK G 0 < G 18 ∨ inK G 1 < G 19 ∨ inK G 2 < G 20) from by omega)]
        by_cases p4 : G 30 ≤ G 36
        · rw [if_neg (show ¬ G 36 < G 30 from by omega), if_pos p4]
        · rw [if_pos (show G 36 < G 30 from by omega), if_neg p4]
          exact lp_o_isOver2 hb hC hB hon 5 0 (by omega) _
      · rw [if_neg p3]
        simp only [Nat.reduceAdd] at p1 p2 p3
        rw [if_pos (show (inK G 0 < G 18 ∨ inK G 1 < G 19 ∨ inK G 2 < G 20) from by omega)]
    · rw [if_neg p2]
      simp only [Nat.reduceAdd] at p1 p2
      rw [if_pos (show (inK G 0 < G 18 ∨ inK G 1 < G 19 ∨ inK G 2 < G 20) from by omega)]
  · rw [if_neg p1]
    simp only [Nat.reduceAdd] at p1
    rw [if_pos (show (inK G 0 < G 18 ∨ inK G 1 < G 19 ∨ inK G 2 < G 20) from by omega)]
end CRULES2
