section PAIR3
variable {d t : Nat} {iv : mI} {jv : mJ} {G : Nat → Nat}
/-! told, by, taken -/
theorem pr_told (hI : INV t iv jv) (x y : Int32) : XM (d + 12) Yt_told [.ref 0, .int x, .int y] iv jv (Q1 (d + 12) t Ym_told [.ref 118, .int x, .int y]) := by
  obtain ⟨G, hT, hC, hG, hM, hS⟩ := hI
  have hB := hT.1
  by_cases h : isIt G x
  · obtain ⟨i, hi, hi8, rfl⟩ := natIt hB h
    obtain ⟨cf, cp, ca, cb, cw, ck, ci⟩ := cr1 hC
    obtain ⟨t0, t1, t2⟩ := sI1 hi8
    obtain ⟨⟨f0, f1, f2, f3, f4, f5, f6, f7⟩, fr, ft⟩ := ci i hi
    have oI := fun (Q : Option Value → mH → Prop) => sp_oIN (d := d + 9) (jv := jv) (Q := Q) (show i < 2147483648 from by omega) isB1 hC.1 hB
    by_cases h2 : 0 ≤ y.toInt ∧ y.toInt ≤ 7
    · obtain ⟨w, hw, rfl⟩ := nat8 (m := 7) (x := y) h2 (by decide)
      have fin : Q1 (d + 12) t Ym_told [.ref 118, .int (nI i), .int (nI w)] (some (.int (vTold G i w))) (mk iv jv) := by
        refine Q1_i ?_
        rw [sp_m_told (d := d + 8) hi (by omega) hG hB]
        exact Q2_i (INV_r hT hC hG hM hS)
      have hw' : w = 0 ∨ w = 1 ∨ w = 2 ∨ w = 3 ∨ w = 4 ∨ w = 5 ∨ w = 6 ∨ w = 7 := by omega
      rcases hw' with rfl | rfl | rfl | rfl | rfl | rfl | rfl | rfl
      · simp (disch := first | assumption | omega) only [e_t_told, x_t_told_0, x_t_told_1, x_t_told_4, x_t_told_5, x_t_told_8, x_t_told_11, x_t_told_13, x_t_told_14, x_t_told_15, x_t_told_18, x_t_told_21, x_t_told_22, x_t_told_23, x_t_told_24, x_t_told_25_0, x_t_told_25_1, x_t_told_25_2, x_t_told_25_3, x_t_told_25_4, x_t_told_25_5, x_t_told_25_6, x_t_told_25_7, x_t_told_72, x_t_told_73, x_t_told_76, x_t_told_77, x_t_told_78, x_t_told_81, x_t_told_82, x_t_told_83, x_t_told_86, x_t_told_87, x_t_told_88, x_t_told_91, x_t_told_92, x_t_told_93, x_t_told_96, x_t_told_97, x_t_told_98, x_t_told_101, x_t_told_102, x_t_told_103, x_t_told_106, x_t_told_109, x_t_told_110, x_t_told_113, x_t_told_114, x_t_told_115, x_t_told_116, x_t_told_119, x_t_told_120, x_t_told_122, oI, XK_s, b01_eq0, hi, not_true_eq_false, if_false, q_in, q_tn, true_and, t0, f0]
        exact fin
      · simp (disch := first | assumption | omega) only [e_t_told, x_t_told_0, x_t_told_1, x_t_told_4, x_t_told_5, x_t_told_8, x_t_told_11, x_t_told_13, x_t_told_14, x_t_told_15, x_t_told_18, x_t_told_21, x_t_told_22, x_t_told_23, x_t_told_24, x_t_told_25_0, x_t_told_25_1, x_t_told_25_2, x_t_told_25_3, x_t_told_25_4, x_t_told_25_5, x_t_told_25_6, x_t_told_25_7, x_t_told_72, x_t_told_73, x_t_told_76, x_t_told_77, x_t_told_78, x_t_told_81, x_t_told_82, x_t_told_83, x_t_told_86, x_t_told_87, x_t_told_88, x_t_told_91, x_t_told_92, x_t_told_93, x_t_told_96, x_t_told_97, x_t_told_98, x_t_told_101, x_t_told_102, x_t_told_103, x_t_told_106, x_t_told_109, x_t_told_110, x_t_told_113, x_t_told_114, x_t_told_115, x_t_told_116, x_t_told_119, x_t_told_120, x_t_told_122, oI, XK_s, b01_eq0, hi, not_true_eq_false, if_false, q_in, q_tn, true_and, t0, f1]
        exact fin
      · simp (disch := first | assumption | omega) only [e_t_told, x_t_told_0, x_t_told_1, x_t_told_4, x_t_told_5, x_t_told_8, x_t_told_11, x_t_told_13, x_t_told_14, x_t_told_15, x_t_told_18, x_t_told_21, x_t_told_22, x_t_told_23, x_t_told_24, x_t_told_25_0, x_t_told_25_1, x_t_told_25_2, x_t_told_25_3, x_t_told_25_4, x_t_told_25_5, x_t_told_25_6, x_t_told_25_7, x_t_told_72, x_t_told_73, x_t_told_76, x_t_told_77, x_t_told_78, x_t_told_81, x_t_told_82, x_t_told_83, x_t_told_86, x_t_told_87, x_t_told_88, x_t_told_91, x_t_told_92, x_t_told_93, x_t_told_96, x_t_told_97, x_t_told_98, x_t_told_101, x_t_told_102, x_t_told_103, x_t_told_106, x_t_told_109, x_t_told_110, x_t_told_113, x_t_told_114, x_t_told_115, x_t_told_116, x_t_told_119, x_t_told_120, x_t_told_122, oI, XK_s, b01_eq0, hi, not_true_eq_false, if_false, q_in, q_tn, true_and, t0, f2]
        exact fin
      · simp (disch := first | assumption | omega) only [e_t_told, x_t_told_0, x_t_told_1, x_t_told_4, x_t_told_5, x_t_told_8, x_t_told_11, x_t_told_13, x_t_told_14, x_t_told_15, x_t_told_18, x_t_told_21, x_t_told_22, x_t_told_23, x_t_told_24, x_t_told_25_0, x_t_told_25_1, x_t_told_25_2, x_t_told_25_3, x_t_told_25_4, x_t_told_25_5, x_t_told_25_6, x_t_told_25_7, x_t_told_72, x_t_told_73, x_t_told_76, x_t_told_77, x_t_told_78, x_t_told_81, x_t_told_82, x_t_told_83, x_t_told_86, x_t_told_87, x_t_told_88, x_t_told_91, x_t_told_92, x_t_told_93, x_t_told_96, x_t_told_97, x_t_told_98, x_t_told_101, x_t_told_102, x_t_told_103, x_t_told_106, x_t_told_109, x_t_told_110, x_t_told_113, x_t_told_114, x_t_told_115, x_t_told_116, x_t_told_119, x_t_told_120, x_t_told_122, oI, XK_s, b01_eq0, hi, not_true_eq_false, if_false, q_in, q_tn, true_and, t0, f3]
        exact fin
      · simp (disch := first | assumption | omega) only [e_t_told, x_t_told_0, x_t_told_1, x_t_told_4, x_t_told_5, x_t_told_8, x_t_told_11, x_t_told_13, x_t_told_14, x_t_told_15, x_t_told_18, x_t_told_21, x_t_told_22, x_t_told_23, x_t_told_24, x_t_told_25_0, x_t_told_25_1, x_t_told_25_2, x_t_told_25_3, x_t_told_25_4, x_t_told_25_5, x_t_told_25_6, x_t_told_25_7, x_t_told_72, x_t_told_73, x_t_told_76, x_t_told_77, x_t_told_78, x_t_told_81, x_t_told_82, x_t_told_83, x_t_told_86, x_t_told_87, x_t_told_88, x_t_told_91, x_t_told_92, x_t_told_93, x_t_told_96, x_t_told_97, x_t_told_98, x_t_told_101, x_t_told_102, x_t_told_103, x_t_told_106, x_t_told_109, x_t_told_110, x_t_told_113, x_t_told_114, x_t_told_115, x_t_told_116, x_t_told_119, x_t_told_120, x_t_told_122, oI, XK_s, b01_eq0, hi, not_true_eq_false, if_false, q_in, q_tn, true_and, t0, f4]
        exact fin
      · simp (disch := first | assumption | omega) only [e_t_told, x_t_told_0, x_t_told_1, x_t_told_4, x_t_told_5, x_t_told_8, x_t_told_11, x_t_told_13, x_t_told_14, x_t_told_15, x_t_told_18, x_t_told_21, x_t_told_22, x_t_told_23, x_t_told_24, x_t_told_25_0, x_t_told_25_1, x_t_told_25_2, x_t_told_25_3, x_t_told_25_4, x_t_told_25_5, x_t_told_25_6, x_t_told_25_7, x_t_told_72, x_t_told_73, x_t_told_76, x_t_told_77, x_t_told_78, x_t_told_81, x_t_told_82, x_t_told_83, x_t_told_86, x_t_told_87, x_t_told_88, x_t_told_91, x_t_told_92, x_t_told_93, x_t_told_96, x_t_told_97, x_t_told_98, x_t_told_101, x_t_told_102, x_t_told_103, x_t_told_106, x_t_told_109, x_t_told_110, x_t_told_113, x_t_told_114, x_t_told_115, x_t_told_116, x_t_told_119, x_t_told_120, x_t_told_122, oI, XK_s, b01_eq0, hi, not_true_eq_false, if_false, q_in, q_tn, true_and, t0, f5]
        exact fin
      · have ev : vTold G i 6 = b01 ((G 35).testBit i = true) := rfl
        rw [ev] at fin
        simp (disch := first | assumption | omega) only [e_t_told, x_t_told_0, x_t_told_1, x_t_told_4, x_t_told_5, x_t_told_8, x_t_told_11, x_t_told_13, x_t_told_14, x_t_told_15, x_t_told_18, x_t_told_21, x_t_told_22, x_t_told_23, x_t_told_24, x_t_told_25_0, x_t_told_25_1, x_t_told_25_2, x_t_told_25_3, x_t_told_25_4, x_t_told_25_5, x_t_told_25_6, x_t_told_25_7, x_t_told_72, x_t_told_73, x_t_told_76, x_t_told_77, x_t_told_78, x_t_told_81, x_t_told_82, x_t_told_83, x_t_told_86, x_t_told_87, x_t_told_88, x_t_told_91, x_t_told_92, x_t_told_93, x_t_told_96, x_t_told_97, x_t_told_98, x_t_told_101, x_t_told_102, x_t_told_103, x_t_told_106, x_t_told_109, x_t_told_110, x_t_told_113, x_t_told_114, x_t_told_115, x_t_told_116, x_t_told_119, x_t_told_120, x_t_told_122, oI, XK_s, b01_eq0, hi, not_true_eq_false, if_false, q_in, q_tn, true_and, t0, f6]
        unfold b01 at fin
        by_cases p : (G 35).testBit i = true
        · rw [if_pos p] at fin
          rw [if_neg (fun z => z p)]; exact fin
        · rw [if_neg p] at fin
          rw [if_pos p]; exact fin
      · simp (disch := first | assumption | omega) only [e_t_told, x_t_told_0, x_t_told_1, x_t_told_4, x_t_told_5, x_t_told_8, x_t_told_11, x_t_told_13, x_t_told_14, x_t_told_15, x_t_told_18, x_t_told_21, x_t_told_22, x_t_told_23, x_t_told_24, x_t_told_25_0, x_t_told_25_1, x_t_told_25_2, x_t_told_25_3, x_t_told_25_4, x_t_told_25_5, x_t_told_25_6, x_t_told_25_7, x_t_told_72, x_t_told_73, x_t_told_76, x_t_told_77, x_t_told_78, x_t_told_81, x_t_told_82, x_t_told_83, x_t_told_86, x_t_told_87, x_t_told_88, x_t_told_91, x_t_told_92, x_t_told_93, x_t_told_96, x_t_told_97, x_t_told_98, x_t_told_101, x_t_told_102, x_t_told_103, x_t_told_106, x_t_told_109, x_t_told_110, x_t_told_113, x_t_told_114, x_t_told_115, x_t_told_116, x_t_told_119, x_t_told_120, x_t_told_122, oI, XK_s, b01_eq0, hi, not_true_eq_false, if_false, q_in, q_tn, true_and, t0, f7]
        exact fin
    · have hd : y.toInt < 0 ∨ 7 < y.toInt := by omega
      simp (disch := first | assumption | omega) only [e_t_told, x_t_told_0, x_t_told_1, x_t_told_4, x_t_told_5, x_t_told_8, x_t_told_11, x_t_told_13, x_t_told_14, x_t_told_15, x_t_told_18, x_t_told_21, x_t_told_22, x_t_told_23, x_t_told_24, x_t_told_25_0, x_t_told_25_1, x_t_told_25_2, x_t_told_25_3, x_t_told_25_4, x_t_told_25_5, x_t_told_25_6, x_t_told_25_7, x_t_told_72, x_t_told_73, x_t_told_76, x_t_told_77, x_t_told_78, x_t_told_81, x_t_told_82, x_t_told_83, x_t_told_86, x_t_told_87, x_t_told_88, x_t_told_91, x_t_told_92, x_t_told_93, x_t_told_96, x_t_told_97, x_t_told_98, x_t_told_101, x_t_told_102, x_t_told_103, x_t_told_106, x_t_told_109, x_t_told_110, x_t_told_113, x_t_told_114, x_t_told_115, x_t_told_116, x_t_told_119, x_t_told_120, x_t_told_122, oI, XK_s, b01_eq0, hi, not_true_eq_false, if_false, q_in, q_tn, true_and]
      rw [x_t_told_25_d hd]
      simp (disch := first | assumption | omega) only [x_t_told_0, x_t_told_1, x_t_told_4, x_t_told_5, x_t_told_8, x_t_told_11, x_t_told_13, x_t_told_14, x_t_told_15, x_t_told_18, x_t_told_21, x_t_told_22, x_t_told_23, x_t_told_24, x_t_told_25_0, x_t_told_25_1, x_t_told_25_2, x_t_told_25_3, x_t_told_25_4, x_t_told_25_5, x_t_told_25_6, x_t_told_25_7, x_t_told_72, x_t_told_73, x_t_told_76, x_t_told_77, x_t_told_78, x_t_told_81, x_t_told_82, x_t_told_83, x_t_told_86, x_t_told_87, x_t_told_88, x_t_told_91, x_t_told_92, x_t_told_93, x_t_told_96, x_t_told_97, x_t_told_98, x_t_told_101, x_t_told_102, x_t_told_103, x_t_told_106, x_t_told_109, x_t_told_110, x_t_told_113, x_t_told_114, x_t_told_115, x_t_told_116, x_t_told_119, x_t_told_120, x_t_told_122]
      refine Q1_i ?_
      rw [sp_m_told_bad (d := d + 8) hG hB (fun z => h2 z.2)]
      exact Q2_i (INV_r hT hC hG hM hS)
  · have p1 : ¬ (0 ≤ x.toInt ∧ x.toInt < (G 29 : Int)) := h
    simp (disch := first | assumption | omega) only [e_t_told, x_t_told_0, x_t_told_1, x_t_told_4, x_t_told_5, x_t_told_8, x_t_told_11, x_t_told_13, x_t_told_14, x_t_told_15, x_t_told_18, x_t_told_21, x_t_told_22, x_t_told_23, x_t_told_24, x_t_told_25_0, x_t_told_25_1, x_t_told_25_2, x_t_told_25_3, x_t_told_25_4, x_t_told_25_5, x_t_told_25_6, x_t_told_25_7, x_t_told_72, x_t_told_73, x_t_told_76, x_t_told_77, x_t_told_78, x_t_told_81, x_t_told_82, x_t_told_83, x_t_told_86, x_t_told_87, x_t_told_88, x_t_told_91, x_t_told_92, x_t_told_93, x_t_told_96, x_t_told_97, x_t_told_98, x_t_told_101, x_t_told_102, x_t_told_103, x_t_told_106, x_t_told_109, x_t_told_110, x_t_told_113, x_t_told_114, x_t_told_115, x_t_told_116, x_t_told_119, x_t_told_120, x_t_told_122, sp_o_isItem x isB1 hC.1 hB, XK_s, b01_eq0, eq_false p1, not_false_eq_true, if_true]
    refine Q1_i ?_
    rw [sp_m_told_bad (d := d + 8) hG hB (fun z => h z.1)]
    exact Q2_i (INV_r hT hC hG hM hS)
theorem pr_by (hI : INV t iv jv) (x y z : Int32) : XM (d + 12) Yt_by [.ref 0, .int x, .int y, .int z] iv jv (Q1 (d + 12) t Ym_by [.ref 118, .int x, .int y, .int z]) := by
  obtain ⟨G, hT, hC, hG, hM, hS⟩ := hI
  have hB := hT.1
  by_cases h : isBy G x y z
  · obtain ⟨i, hi, hi8, rfl⟩ := natIt hB h.1
    obtain ⟨l, hl, rfl⟩ := nat8 (m := 8) (x := y) h.2.1 (by decide)
    obtain ⟨w, hw, rfl⟩ := nat8 (m := 1) (x := z) h.2.2 (by decide)
    obtain ⟨cf, cp, ca, cb, cw, ck, ci⟩ := cr1 hC
    obtain ⟨t0, t1, t2⟩ := sI1 hi8
    obtain ⟨f8, fr, ft⟩ := ci i hi
    have frl := fr l (by omega)
    have ftl := ft l (by omega)
    have n1 : (13 + 3 * i + 1 = 1001) = False := by apply eq_false; omega
    have n2 : (13 + 3 * i + 2 = 1001) = False := by apply eq_false; omega
    have oI := fun (Q : Option Value → mH → Prop) => sp_oIN (d := d + 9) (jv := jv) (Q := Q) (show i < 2147483648 from by omega) isB1 hC.1 hB
    have fin : Q1 (d + 12) t Ym_by [.ref 118, .int (nI i), .int (nI l), .int (nI w)] (some (.int (nI (vBy G i l w)))) (mk iv jv) := by
      refine Q1_i ?_
      rw [sp_m_by (d := d + 7) hi (by omega) (by omega) hG hB]
      exact Q2_i (INV_r hT hC hG hM hS)
    unfold vBy at fin
    by_cases p : w = 0
    · rw [if_pos p] at fin
      simp (disch := first | assumption | omega) only [e_t_by, x_t_by_0, x_t_by_1, x_t_by_4, x_t_by_5, x_t_by_8, x_t_by_11, x_t_by_12, x_t_by_15, x_t_by_18, x_t_by_19, x_t_by_20, x_t_by_21, x_t_by_24, x_t_by_27, x_t_by_29, x_t_by_30, x_t_by_31, x_t_by_34, x_t_by_37, x_t_by_38, x_t_by_39, x_t_by_41, x_t_by_42, x_t_by_45, x_t_by_47, x_t_by_50, x_t_by_51, x_t_by_52, x_t_by_55, x_t_by_57, x_t_by_60, x_t_by_61, x_t_by_62, oI, sp_tLN, sp_withinN, XK_s, b01_eq0, hi, hl, hw, Nat.zero_le, and_self, not_true_eq_false, if_false, q_in, q_tn, true_and, true_or, t0, t1, t2, n1, n2, qn0, eq_true p, if_true, frl]
      exact fin
    · rw [if_neg p] at fin
      simp (disch := first | assumption | omega) only [e_t_by, x_t_by_0, x_t_by_1, x_t_by_4, x_t_by_5, x_t_by_8, x_t_by_11, x_t_by_12, x_t_by_15, x_t_by_18, x_t_by_19, x_t_by_20, x_t_by_21, x_t_by_24, x_t_by_27, x_t_by_29, x_t_by_30, x_t_by_31, x_t_by_34, x_t_by_37, x_t_by_38, x_t_by_39, x_t_by_41, x_t_by_42, x_t_by_45, x_t_by_47, x_t_by_50, x_t_by_51, x_t_by_52, x_t_by_55, x_t_by_57, x_t_by_60, x_t_by_61, x_t_by_62, oI, sp_tLN, sp_withinN, XK_s, b01_eq0, hi, hl, hw, Nat.zero_le, and_self, not_true_eq_false, if_false, q_in, q_tn, true_and, true_or, t0, t1, t2, n1, n2, qn0, eq_false p, ftl]
      exact fin
  · have fin : Q1 (d + 12) t Ym_by [.ref 118, .int x, .int y, .int z] (some (.int (-2))) (mk iv jv) := by
      refine Q1_i ?_
      rw [sp_m_by_bad (d := d + 7) hG hB h]
      exact Q2_i (INV_r hT hC hG hM hS)
    unfold isBy isIt isLv i01 at h
    by_cases p1 : 0 ≤ x.toInt ∧ x.toInt < (G 29 : Int)
    · by_cases p2 : ((0 : Nat) : Int) ≤ y.toInt ∧ y.toInt ≤ ((8 : Nat) : Int)
      · have p3 : ¬ (((0 : Nat) : Int) ≤ z.toInt ∧ z.toInt ≤ ((1 : Nat) : Int)) := by omega
        simp (disch := first | assumption | omega) only [e_t_by, x_t_by_0, x_t_by_1, x_t_by_4, x_t_by_5, x_t_by_8, x_t_by_11, x_t_by_12, x_t_by_15, x_t_by_18, x_t_by_19, x_t_by_20, x_t_by_21, x_t_by_24, x_t_by_27, x_t_by_29, x_t_by_30, x_t_by_31, x_t_by_34, x_t_by_37, x_t_by_38, x_t_by_39, x_t_by_41, x_t_by_42, x_t_by_45, x_t_by_47, x_t_by_50, x_t_by_51, x_t_by_52, x_t_by_55, x_t_by_57, x_t_by_60, x_t_by_61, x_t_by_62, sp_o_isItem x isB1 hC.1 hB, sp_t_isLevel, sp_within, XK_s, b01_eq0, eq_true p1, eq_true p2, eq_false p3, not_true_eq_false, not_false_eq_true, if_false, if_true]
        exact fin
      · simp (disch := first | assumption | omega) only [e_t_by, x_t_by_0, x_t_by_1, x_t_by_4, x_t_by_5, x_t_by_8, x_t_by_11, x_t_by_12, x_t_by_15, x_t_by_18, x_t_by_19, x_t_by_20, x_t_by_21, x_t_by_24, x_t_by_27, x_t_by_29, x_t_by_30, x_t_by_31, x_t_by_34, x_t_by_37, x_t_by_38, x_t_by_39, x_t_by_41, x_t_by_42, x_t_by_45, x_t_by_47, x_t_by_50, x_t_by_51, x_t_by_52, x_t_by_55, x_t_by_57, x_t_by_60, x_t_by_61, x_t_by_62, sp_o_isItem x isB1 hC.1 hB, sp_t_isLevel, XK_s, b01_eq0, eq_true p1, eq_false p2, not_true_eq_false, not_false_eq_true, if_false, if_true]
        exact fin
    · simp (disch := first | assumption | omega) only [e_t_by, x_t_by_0, x_t_by_1, x_t_by_4, x_t_by_5, x_t_by_8, x_t_by_11, x_t_by_12, x_t_by_15, x_t_by_18, x_t_by_19, x_t_by_20, x_t_by_21, x_t_by_24, x_t_by_27, x_t_by_29, x_t_by_30, x_t_by_31, x_t_by_34, x_t_by_37, x_t_by_38, x_t_by_39, x_t_by_41, x_t_by_42, x_t_by_45, x_t_by_47, x_t_by_50, x_t_by_51, x_t_by_52, x_t_by_55, x_t_by_57, x_t_by_60, x_t_by_61, x_t_by_62, sp_o_isItem x isB1 hC.1 hB, XK_s, b01_eq0, eq_false p1, not_false_eq_true, if_true]
      exact fin
theorem pr_taken (hI : INV t iv jv) (x y : Int32) : XM (d + 12) Yt_taken [.ref 0, .int x, .int y] iv jv (Q1 (d + 12) t Ym_taken [.ref 118, .int x, .int y]) := by
  obtain ⟨G, hT, hC, hG, hM, hS⟩ := hI
  have hB := hT.1
  by_cases h : isTk G x y
  · obtain ⟨i, hi, hi8, rfl⟩ := natIt hB h.1
    obtain ⟨k, hk, rfl⟩ := nat8 (m := 5) (x := y) h.2 (by decide)
    obtain ⟨cf, cp, ca, cb, cw, ck, ci⟩ := cr1 hC
    obtain ⟨t0, t1, t2⟩ := sI1 hi8
    obtain ⟨⟨f0, f1, f2, f3, f4, f5, f6, f7⟩, fr, ft⟩ := ci i hi
    have b4 := (hB.2.2.2.1 i hi8).1
    have oI := fun (Q : Option Value → mH → Prop) => sp_oIN (d := d + 9) (jv := jv) (Q := Q) (show i < 2147483648 from by omega) isB1 hC.1 hB
    have iO := fun (Q : Option Value → mH → Prop) => sp_i_isOf (d := d + 8) (jv := jv) (Q := Q) t0 f0 b4 (show k < 6 from by omega)
    have fin : Q1 (d + 12) t Ym_taken [.ref 118, .int (nI i), .int (nI k)] (some (.int (if undr (G (37 + 6 * i)) k = true then nI (G (37 + 6 * i + 2)) else -13))) (mk iv jv) := by
      refine Q1_i ?_
      rw [sp_m_taken (d := d + 9) hi (by omega) hG hB]
      exact Q2_i (INV_r hT hC hG hM hS)
    by_cases p : undr (G (37 + 6 * i)) k = true
    · rw [if_pos p] at fin
      simp (disch := first | assumption | omega) only [e_t_taken, x_t_taken_0, x_t_taken_1, x_t_taken_4, x_t_taken_5, x_t_taken_8, x_t_taken_11, x_t_taken_12, x_t_taken_15, x_t_taken_18, x_t_taken_20, x_t_taken_21, x_t_taken_22, x_t_taken_25, x_t_taken_28, x_t_taken_29, x_t_taken_30, x_t_taken_31, x_t_taken_32, x_t_taken_33, x_t_taken_36, x_t_taken_39, x_t_taken_40, x_t_taken_43, x_t_taken_46, x_t_taken_48, oI, sp_tKN, iO, XK_s, b01_eq0, hi, hk, eq_true p, not_true_eq_false, if_false, q_in, q_tn, true_and, t0, f2]
      exact fin
    · rw [if_neg p] at fin
      simp (disch := first | assumption | omega) only [e_t_taken, x_t_taken_0, x_t_taken_1, x_t_taken_4, x_t_taken_5, x_t_taken_8, x_t_taken_11, x_t_taken_12, x_t_taken_15, x_t_taken_18, x_t_taken_20, x_t_taken_21, x_t_taken_22, x_t_taken_25, x_t_taken_28, x_t_taken_29, x_t_taken_30, x_t_taken_31, x_t_taken_32, x_t_taken_33, x_t_taken_36, x_t_taken_39, x_t_taken_40, x_t_taken_43, x_t_taken_46, x_t_taken_48, oI, sp_tKN, iO, XK_s, b01_eq0, hi, hk, eq_false p, not_true_eq_false, not_false_eq_true, if_true, if_false, q_in, q_tn, true_and, t0]
      exact fin
  · have fin : Q1 (d + 12) t Ym_taken [.ref 118, .int x, .int y] (some (.int (-2))) (mk iv jv) := by
      refine Q1_i ?_
      rw [sp_m_taken_bad (d := d + 9) hG hB h]
      exact Q2_i (INV_r hT hC hG hM hS)
    unfold isTk isIt at h
    by_cases p1 : 0 ≤ x.toInt ∧ x.toInt < (G 29 : Int)
    · have p3 : ¬ (((0 : Nat) : Int) ≤ y.toInt ∧ y.toInt ≤ ((5 : Nat) : Int)) := by omega
      simp (disch := first | assumption | omega) only [e_t_taken, x_t_taken_0, x_t_taken_1, x_t_taken_4, x_t_taken_5, x_t_taken_8, x_t_taken_11, x_t_taken_12, x_t_taken_15, x_t_taken_18, x_t_taken_20, x_t_taken_21, x_t_taken_22, x_t_taken_25, x_t_taken_28, x_t_taken_29, x_t_taken_30, x_t_taken_31, x_t_taken_32, x_t_taken_33, x_t_taken_36, x_t_taken_39, x_t_taken_40, x_t_taken_43, x_t_taken_46, x_t_taken_48, sp_o_isItem x isB1 hC.1 hB, sp_t_isKind, XK_s, b01_eq0, eq_true p1, eq_false p3, not_true_eq_false, not_false_eq_true, if_false, if_true]
      exact fin
    · simp (disch := first | assumption | omega) only [e_t_taken, x_t_taken_0, x_t_taken_1, x_t_taken_4, x_t_taken_5, x_t_taken_8, x_t_taken_11, x_t_taken_12, x_t_taken_15, x_t_taken_18, x_t_taken_20, x_t_taken_21, x_t_taken_22, x_t_taken_25, x_t_taken_28, x_t_taken_29, x_t_taken_30, x_t_taken_31, x_t_taken_32, x_t_taken_33, x_t_taken_36, x_t_taken_39, x_t_taken_40, x_t_taken_43, x_t_taken_46, x_t_taken_48, sp_o_isItem x isB1 hC.1 hB, XK_s, b01_eq0, eq_false p1, not_false_eq_true, if_true]
      exact fin
/-! begin -/
theorem ST_be {z : Int32} (hT : ST t G) (ht : t < 900) : ST (t + 1) (beG G z) := by
  obtain ⟨hB, b, c, e, f, g, h⟩ := hT
  have b1 := hB.1
  have hh := hs_lt G (G 33 + 1) z (G 29) b1
  have hp := pow_le b1
  have hB2 := IB_bg hB (show G 33 < 1000 from by omega)
  have u : ∀ j, j ≠ 35 → beG G z j = stG (bgG G) 9 j := fun j hj => by unfold beG; rw [up_ne hj]
  refine ⟨?_, fun j hj => ?_, ?_, ?_, fun hon => ?_, fun i hi => ?_, ?_⟩
  · obtain ⟨b1, b2, b3, b4, b5, b6, b7, b8, b9, b10, b11, b12, b13⟩ := hB2
    refine ⟨?_, ?_, ?_, ?_, ?_, ?_, ?_, ?_, ?_, ?_, ?_, ?_, ?_⟩
    · rw [u _ (by omega)]; exact b1
    · rw [u _ (by omega)]; exact b2
    · rw [beG_35 hB]; omega
    · intro i hi
      rw [u _ (by omega), u _ (by omega), u _ (by omega), u _ (by omega), u _ (by omega), u _ (by omega)]; exact b4 i hi
    · intro k hk
      rw [u _ (by omega), u _ (by omega)]; exact b5 k hk
    · intro l hl; rw [u _ (by omega)]; exact b6 l hl
    · intro a ha; rw [u _ (by omega), u _ (by omega)]; exact b7 a ha
    · intro r hr; rw [u _ (by omega)]; exact b8 r hr
    · rw [u _ (by omega)]; exact b9
    · rw [u _ (by omega)]; exact b10
    · rw [u _ (by omega)]; exact b11
    · rw [u _ (by omega)]; exact b12
    · rw [u _ (by omega)]; exact b13
  · rw [beG_36] at hj; omega
  · obtain ⟨l, hl, h0⟩ := c
    exact ⟨l, hl, by rw [beG_ne (by omega) (by omega)]; exact h0⟩
  · obtain ⟨l, hl, h0⟩ := dv_nz c
    exact ⟨l, hl, by rw [wt_be z l hl]; exact h0⟩
  · exact absurd (beG_34 G z) hon
  · rw [beG_ne (by omega) (by omega)]; exact Nat.le_succ_of_le (g i hi)
  · rw [beG_33]; omega
theorem pr_begin (hI : INV t iv jv) (ht : t < 900) (x : Int32) : XM (d + 12) Yt_begin [.ref 0, .int x] iv jv (Q1 (d + 12) t Ym_begin [.ref 118, .int x]) := by
  obtain ⟨G, hT, hC, hG, hM, hS⟩ := hI
  have hB := hT.1
  have b34 : G 34 ≤ 1 := hB.2.2.2.2.2.2.2.2.2.2.2.2
  obtain ⟨cf, cp, ca, cb, cw, ck, ci⟩ := cr1 hC
  have f11 := cf.2.2.2.2.2.1
  by_cases p : G 34 = 1
  · have p0 : ¬ G 34 = 0 := by omega
    simp (disch := first | assumption | omega) only [e_t_begin, x_t_begin_0, x_t_begin_1, x_t_begin_4, x_t_begin_7, x_t_begin_10, x_t_begin_12, x_t_begin_15, x_t_begin_16, x_t_begin_19, x_t_begin_20, x_t_begin_23, f11, qn0, p0, if_false]
    refine Q1_i (sp_m_begin (d := d + 9) hG hB hT.2.2.1 (by have := hT.2.2.2.2.2.2; omega) (fun _ => Q2_i (INV_r hT hC hG hM hS)) (fun e => absurd p e))
  · have p0 : G 34 = 0 := by omega
    simp (disch := first | assumption | omega) only [e_t_begin, x_t_begin_0, x_t_begin_1, x_t_begin_4, x_t_begin_7, x_t_begin_10, x_t_begin_12, x_t_begin_15, x_t_begin_16, x_t_begin_19, x_t_begin_20, x_t_begin_23, f11, qn0, p0, if_true]
    have h33 := hT.2.2.2.2.2.2
    refine sp_o_start (d := d + 7) isB1 hC hB hT.2.2.1 (hT.2.2.2.2.1 p).1 (by omega) (fun iv1 jv1 hF hC1 => ?_)
    simp (disch := first | assumption | omega) only [XK_s, x_t_begin_0, x_t_begin_1, x_t_begin_4, x_t_begin_7, x_t_begin_10, x_t_begin_12, x_t_begin_15, x_t_begin_16, x_t_begin_19, x_t_begin_20, x_t_begin_23]
    refine Q1_i (sp_m_begin (d := d + 9) (FX_G (FX_1 hF) hG) hB hT.2.2.1 (by omega) (fun e => absurd e p) (fun _ jv2 hG2 hF2 => Q2_i (INV_mk hM hS (FX_1 hF) hC1 ⟨fun _ _ _ => rfl, fun q k _ e2 _ e4 => hF2 q k e2 e4⟩ hG2 (ST_be hT ht))))
end PAIR3
