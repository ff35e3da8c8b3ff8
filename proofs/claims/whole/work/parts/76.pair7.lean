section PAIR7
variable {d t : Nat} {iv : mI} {jv : mJ} {G : Nat → Nat} {B : Nat} {Q : Option Value → mH → Prop}
def SE (iv : mI) (s : Nat) : Prop := iv (110 + 2 * s) 0 = iv 123 s ∧ (iv 123 s = -1 ∨ iv 123 s = nI 0 ∨ iv 123 s = nI 1) ∧ ∃ n, n ≤ 40 ∧ iv (110 + 2 * s) 1 = nI n ∧ iv 124 s = nI n ∧ ∀ i, i < n → iv (110 + 2 * s + 1) i = iv 125 (40 * s + i)
theorem FI_FW {iv iv1 : mI} {jv : mJ} (h : FI iv iv1) : FW iv jv iv1 jv := ⟨fun q k e => h q k (fun w => e ⟨w.1, Or.inr (Or.inr w.2)⟩), fun _ _ _ _ _ _ => rfl⟩
theorem shN {s : Nat} (hs : s < 4) : 110 + 2 * s + 1 ≠ 1001 := by omega
theorem tells_tail {s n : Nat} {w z k4 : Int32} (hs : s < 4) (hC : CR 1 G iv jv) (hB : IB G) (z1 : iv (110 + 2 * s) 1 = nI n) (hn : n ≤ 40) : XT (d + 11) Yt_tells 57 [.ref 0, .int (nI s), .int w, .int z, .int k4, mU] [] iv jv Q = if iv (110 + 2 * s) 0 = -1 then Q (some (.int (-11))) (mk iv jv) else if shOk G (iv (110 + 2 * s + 1)) n = true then XT (d + 11) Yt_tells 91 [.ref 0, .int (nI s), .int w, .int z, .int k4, .ref (110 + 2 * s)] [] iv jv Q else Q (some (.int (-2))) (mk iv jv) := by
  obtain ⟨h0, h1⟩ := shH hs
  have hu := fun (Q : Option Value → mH → Prop) => sp_o_understands (d := d + 9) (jv := jv) (Q := Q) (C := iv (110 + 2 * s + 1)) isB1 hC.1 hB h0 h1 (shN hs) z1 hn (fun _ _ => rfl)
  by_cases p : iv (110 + 2 * s) 0 = -1
  · rw [if_pos p]
    simp (disch := first | assumption | omega) only [x_t_tells_0, x_t_tells_1, x_t_tells_3, x_t_tells_5, x_t_tells_6, x_t_tells_9, x_t_tells_12, x_t_tells_13, x_t_tells_16, x_t_tells_18, x_t_tells_19, x_t_tells_22, x_t_tells_25, x_t_tells_26, x_t_tells_27, x_t_tells_28, x_t_tells_31, x_t_tells_34, x_t_tells_36, x_t_tells_39, x_t_tells_41, x_t_tells_42, x_t_tells_44, x_t_tells_47, x_t_tells_48, x_t_tells_51, x_t_tells_54, x_t_tells_56, x_t_tells_57, x_t_tells_58, x_t_tells_61, x_t_tells_62, x_t_tells_63, x_t_tells_65, x_t_tells_67, x_t_tells_70, x_t_tells_73, x_t_tells_75, x_t_tells_76, x_t_tells_77, x_t_tells_80, x_t_tells_82, x_t_tells_85, x_t_tells_88, x_t_tells_90, x_t_tells_91, x_t_tells_93, x_t_tells_96, x_t_tells_97, x_t_tells_100, x_t_tells_102, x_t_tells_103, x_t_tells_105, x_t_tells_106, x_t_tells_107, x_t_tells_110, x_t_tells_111, x_t_tells_112, x_t_tells_115, x_t_tells_116, x_t_tells_119, x_t_tells_121, x_t_tells_122, x_t_tells_123, x_t_tells_124, x_t_tells_127, x_t_tells_130, x_t_tells_131, x_t_tells_134, x_t_tells_136, x_t_tells_139, q_in, q_tn, true_and, h0, sp_h_isMissing h0, XK_s, b01_eq0, eq_true p, not_true_eq_false, if_false]
  · rw [if_neg p]
    by_cases p2 : shOk G (iv (110 + 2 * s + 1)) n = true
    · rw [if_pos p2]
      simp (disch := first | assumption | omega) only [x_t_tells_57, x_t_tells_58, x_t_tells_61, x_t_tells_62, x_t_tells_63, x_t_tells_65, x_t_tells_67, x_t_tells_70, x_t_tells_76, x_t_tells_77, x_t_tells_80, x_t_tells_82, x_t_tells_85, q_in, q_tn, true_and, h0, sp_h_isMissing h0, XK_s, b01_eq0, eq_false p, not_false_eq_true, if_true, hu, eq_true p2, not_true_eq_false, if_false]
    · rw [if_neg p2]
      simp (disch := first | assumption | omega) only [x_t_tells_0, x_t_tells_1, x_t_tells_3, x_t_tells_5, x_t_tells_6, x_t_tells_9, x_t_tells_12, x_t_tells_13, x_t_tells_16, x_t_tells_18, x_t_tells_19, x_t_tells_22, x_t_tells_25, x_t_tells_26, x_t_tells_27, x_t_tells_28, x_t_tells_31, x_t_tells_34, x_t_tells_36, x_t_tells_39, x_t_tells_41, x_t_tells_42, x_t_tells_44, x_t_tells_47, x_t_tells_48, x_t_tells_51, x_t_tells_54, x_t_tells_56, x_t_tells_57, x_t_tells_58, x_t_tells_61, x_t_tells_62, x_t_tells_63, x_t_tells_65, x_t_tells_67, x_t_tells_70, x_t_tells_73, x_t_tells_75, x_t_tells_76, x_t_tells_77, x_t_tells_80, x_t_tells_82, x_t_tells_85, x_t_tells_88, x_t_tells_90, x_t_tells_91, x_t_tells_93, x_t_tells_96, x_t_tells_97, x_t_tells_100, x_t_tells_102, x_t_tells_103, x_t_tells_105, x_t_tells_106, x_t_tells_107, x_t_tells_110, x_t_tells_111, x_t_tells_112, x_t_tells_115, x_t_tells_116, x_t_tells_119, x_t_tells_121, x_t_tells_122, x_t_tells_123, x_t_tells_124, x_t_tells_127, x_t_tells_130, x_t_tells_131, x_t_tells_134, x_t_tells_136, x_t_tells_139, q_in, q_tn, true_and, h0, sp_h_isMissing h0, XK_s, b01_eq0, eq_false p, not_false_eq_true, if_true, hu, eq_false p2]
theorem pr_tells (hI : INV t iv jv) (x y z : Int32) : XM (d + 12) Yt_tells [.ref 0, .int x, .int y, .int z] iv jv (Q1 (d + 12) t Ym_tells [.ref 118, .int x, .int y, .int z]) := by
  obtain ⟨G, hT, hC, hG, hM, hS⟩ := hI
  have hB := hT.1
  have b1 := hB.1
  have f9 := hC.1.2.2.2.2.1
  by_cases h : tOk G x y z
  · obtain ⟨hx, hy⟩ := h
    obtain ⟨s, hs3, rfl⟩ := nat8 (m := 3) (x := x) hx (by decide)
    have hs : s < 4 := by omega
    obtain ⟨e0, e1, n, hn, z1, z2, hc⟩ := hS s hs
    obtain ⟨h0, h1⟩ := shH hs
    have hCr : ∀ i, i < n → iv 125 (40 * s + i) = iv (110 + 2 * s + 1) i := fun i hi => (hc i hi).symm
    have hok : shOk G (iv (110 + 2 * s + 1)) n = true → n ≤ G 29 ∧ ∀ i, i < n → iv (110 + 2 * s + 1) i = nI 0 ∨ iv (110 + 2 * s + 1) i = nI 1 := fun h => by
      unfold shOk at h
      rw [Bool.and_eq_true, decide_eq_true_eq] at h
      exact ⟨h.1, aa_01 n h.2⟩
    have he : ∀ iv', FI iv iv' → INV (t + 1) iv' jv := fun iv' hF => INV_mk hM hS (FX_r _ _) hC (FI_FW hF) hG (ST_s hT)
    rcases hy with hy | ⟨hy, hz⟩
    · obtain ⟨w, hw, rfl⟩ := nat8 (m := 1) (x := y) hy (by decide)
      have p10 : ¬ (10 ≤ w ∧ w ≤ 9 + G 29) := by omega
      by_cases p2 : w = 0
      · subst p2
        have fin : ∀ r, vT G (iv (110 + 2 * s + 1)) n (iv 123 s) (bst G (iv (110 + 2 * s + 1)) (-1) 0 (-1) n) = r → Q1 (d + 12) t Ym_tells [.ref 118, .int (nI s), .int (nI 0), .int z] (some (.int r)) (mk iv jv) := fun r hr => by
          subst hr
          exact Q1_i (sp_m_tells0 (d := d + 6) hG hB hs rfl z2 hn hCr (fun iv' hF => Q2_i (he iv' hF)))
        unfold vT at fin
        simp (disch := first | assumption | omega) only [e_t_tells, x_t_tells_0, x_t_tells_1, x_t_tells_3, x_t_tells_5, x_t_tells_6, x_t_tells_9, x_t_tells_12, x_t_tells_13, x_t_tells_16, x_t_tells_18, x_t_tells_19, x_t_tells_22, x_t_tells_25, x_t_tells_26, x_t_tells_27, x_t_tells_28, x_t_tells_31, x_t_tells_42, x_t_tells_44, f9, q_add, sp_withinN, sp_tSN, XK_s, b01_eq0, p10, hs3, hw, Nat.zero_le, and_self, not_true_eq_false, not_false_eq_true, if_false, if_true, tells_tail (d := d) hs hC hB z1 hn]
        by_cases p : iv (110 + 2 * s) 0 = -1
        · rw [if_pos p]
          exact fin _ (if_pos (e0.symm.trans p))
        · rw [if_neg p]
          rw [if_neg (fun e => p (e0.trans e))] at fin
          by_cases p3 : shOk G (iv (110 + 2 * s + 1)) n = true
          · obtain ⟨o1, o2⟩ := hok p3
            have hbl := fun (Q : Option Value → mH → Prop) => sp_o_bestLevel (d := d + 9) (Q := Q) (x := -1) (a := -1) (y := -1) (k := 0) isB1 hC hB h0 h1 (shN hs) z1 o1 (fun _ _ => rfl) o2 (Or.inl rfl)
            rw [if_pos p3]
            rw [if_pos p3] at fin
            simp (disch := first | assumption | omega) only [x_t_tells_0, x_t_tells_1, x_t_tells_3, x_t_tells_5, x_t_tells_6, x_t_tells_9, x_t_tells_12, x_t_tells_13, x_t_tells_16, x_t_tells_18, x_t_tells_19, x_t_tells_22, x_t_tells_25, x_t_tells_26, x_t_tells_27, x_t_tells_28, x_t_tells_31, x_t_tells_34, x_t_tells_36, x_t_tells_39, x_t_tells_41, x_t_tells_42, x_t_tells_44, x_t_tells_47, x_t_tells_48, x_t_tells_51, x_t_tells_54, x_t_tells_56, x_t_tells_57, x_t_tells_58, x_t_tells_61, x_t_tells_62, x_t_tells_63, x_t_tells_65, x_t_tells_67, x_t_tells_70, x_t_tells_73, x_t_tells_75, x_t_tells_76, x_t_tells_77, x_t_tells_80, x_t_tells_82, x_t_tells_85, x_t_tells_88, x_t_tells_90, x_t_tells_91, x_t_tells_93, x_t_tells_96, x_t_tells_97, x_t_tells_100, x_t_tells_102, x_t_tells_103, x_t_tells_105, x_t_tells_106, x_t_tells_107, x_t_tells_110, x_t_tells_111, x_t_tells_112, x_t_tells_115, x_t_tells_116, x_t_tells_119, x_t_tells_121, x_t_tells_122, x_t_tells_123, x_t_tells_124, x_t_tells_127, x_t_tells_130, x_t_tells_131, x_t_tells_134, x_t_tells_136, x_t_tells_139, b01_eq0, p10, not_false_eq_true, if_true, hbl, XK_s]
            exact fin _ rfl
          · rw [if_neg p3]
            exact fin _ (if_neg p3)
      · obtain rfl : w = 1 := by omega
        have fin : ∀ r, vT G (iv (110 + 2 * s + 1)) n (iv 123 s) (tu G (iv (110 + 2 * s + 1)) (bst G (iv (110 + 2 * s + 1)) (-1) 0 (-1) n) n n) = r → Q1 (d + 12) t Ym_tells [.ref 118, .int (nI s), .int (nI 1), .int z] (some (.int r)) (mk iv jv) := fun r hr => by
          subst hr
          exact Q1_i (sp_m_tells1 (d := d + 6) hG hB hs rfl z2 hn hCr (fun iv' hF => Q2_i (he iv' hF)))
        unfold vT at fin
        simp (disch := first | assumption | omega) only [e_t_tells, x_t_tells_0, x_t_tells_1, x_t_tells_3, x_t_tells_5, x_t_tells_6, x_t_tells_9, x_t_tells_12, x_t_tells_13, x_t_tells_16, x_t_tells_18, x_t_tells_19, x_t_tells_22, x_t_tells_25, x_t_tells_26, x_t_tells_27, x_t_tells_28, x_t_tells_31, x_t_tells_42, x_t_tells_44, f9, q_add, sp_withinN, sp_tSN, XK_s, b01_eq0, p10, hs3, hw, Nat.zero_le, and_self, not_true_eq_false, not_false_eq_true, if_false, if_true, tells_tail (d := d) hs hC hB z1 hn]
        by_cases p : iv (110 + 2 * s) 0 = -1
        · rw [if_pos p]
          exact fin _ (if_pos (e0.symm.trans p))
        · rw [if_neg p]
          rw [if_neg (fun e => p (e0.trans e))] at fin
          by_cases p3 : shOk G (iv (110 + 2 * s + 1)) n = true
          · obtain ⟨o1, o2⟩ := hok p3
            have hbl := fun (Q : Option Value → mH → Prop) => sp_o_decidingItems (d := d + 8) (Q := Q) isB1 hC hB h0 h1 (shN hs) z1 o1 (fun _ _ => rfl) o2
            rw [if_pos p3]
            rw [if_pos p3] at fin
            simp (disch := first | assumption | omega) only [x_t_tells_0, x_t_tells_1, x_t_tells_3, x_t_tells_5, x_t_tells_6, x_t_tells_9, x_t_tells_12, x_t_tells_13, x_t_tells_16, x_t_tells_18, x_t_tells_19, x_t_tells_22, x_t_tells_25, x_t_tells_26, x_t_tells_27, x_t_tells_28, x_t_tells_31, x_t_tells_34, x_t_tells_36, x_t_tells_39, x_t_tells_41, x_t_tells_42, x_t_tells_44, x_t_tells_47, x_t_tells_48, x_t_tells_51, x_t_tells_54, x_t_tells_56, x_t_tells_57, x_t_tells_58, x_t_tells_61, x_t_tells_62, x_t_tells_63, x_t_tells_65, x_t_tells_67, x_t_tells_70, x_t_tells_73, x_t_tells_75, x_t_tells_76, x_t_tells_77, x_t_tells_80, x_t_tells_82, x_t_tells_85, x_t_tells_88, x_t_tells_90, x_t_tells_91, x_t_tells_93, x_t_tells_96, x_t_tells_97, x_t_tells_100, x_t_tells_102, x_t_tells_103, x_t_tells_105, x_t_tells_106, x_t_tells_107, x_t_tells_110, x_t_tells_111, x_t_tells_112, x_t_tells_115, x_t_tells_116, x_t_tells_119, x_t_tells_121, x_t_tells_122, x_t_tells_123, x_t_tells_124, x_t_tells_127, x_t_tells_130, x_t_tells_131, x_t_tells_134, x_t_tells_136, x_t_tells_139, b01_eq0, p10, n10, not_false_eq_true, if_true, if_false, hbl, XK_s]
            exact fin _ rfl
          · rw [if_neg p3]
            exact fin _ (if_neg p3)
    · obtain ⟨i, hi, rfl⟩ := in_hi hy.1 hy.2 b1
      obtain ⟨l, hl, rfl⟩ := nat8 (m := 8) (x := z) hz (by decide)
      have q10 : 10 ≤ 10 + i ∧ 10 + i ≤ 9 + G 29 := by omega
      have q1 : ¬ (0 ≤ 10 + i ∧ 10 + i ≤ 1) := by omega
      have e3 : 10 + i - 10 = i := by omega
      have fin : ∀ r, vT G (iv (110 + 2 * s + 1)) n (iv 123 s) (kn G (iv (110 + 2 * s + 1)) i l n 6) = r → Q1 (d + 12) t Ym_tells [.ref 118, .int (nI s), .int (nI (10 + i)), .int (nI l)] (some (.int r)) (mk iv jv) := fun r hr => by
        subst hr
        exact Q1_i (sp_m_tells10 (d := d + 6) hG hB hs hi (by omega) rfl z2 hn hCr (fun iv' hF => Q2_i (he iv' hF)))
      unfold vT at fin
      simp (disch := first | assumption | omega) only [e_t_tells, x_t_tells_0, x_t_tells_1, x_t_tells_3, x_t_tells_5, x_t_tells_6, x_t_tells_9, x_t_tells_12, x_t_tells_13, x_t_tells_16, x_t_tells_18, x_t_tells_19, x_t_tells_22, x_t_tells_25, x_t_tells_26, x_t_tells_27, x_t_tells_28, x_t_tells_31, x_t_tells_34, x_t_tells_36, x_t_tells_42, x_t_tells_44, x_t_tells_47, x_t_tells_48, x_t_tells_51, f9, q_add, sp_withinN, sp_tSN, sp_tLN, XK_s, b01_eq0, q10, q1, hs3, hl, and_self, not_true_eq_false, not_false_eq_true, if_false, if_true, tells_tail (d := d) hs hC hB z1 hn]
      by_cases p : iv (110 + 2 * s) 0 = -1
      · rw [if_pos p]
        exact fin _ (if_pos (e0.symm.trans p))
      · rw [if_neg p]
        rw [if_neg (fun e => p (e0.trans e))] at fin
        by_cases p3 : shOk G (iv (110 + 2 * s + 1)) n = true
        · obtain ⟨o1, o2⟩ := hok p3
          have hbl := fun (Q : Option Value → mH → Prop) => sp_o_kindsFor (d := d + 8) (Q := Q) (i := i) (lev := l) isB1 hC hB (by omega) hl h0 h1 (shN hs) z1 o1 (fun _ _ => rfl) o2
          rw [if_pos p3]
          rw [if_pos p3] at fin
          simp (disch := first | assumption | omega) only [x_t_tells_0, x_t_tells_1, x_t_tells_3, x_t_tells_5, x_t_tells_6, x_t_tells_9, x_t_tells_12, x_t_tells_13, x_t_tells_16, x_t_tells_18, x_t_tells_19, x_t_tells_22, x_t_tells_25, x_t_tells_26, x_t_tells_27, x_t_tells_28, x_t_tells_31, x_t_tells_34, x_t_tells_36, x_t_tells_39, x_t_tells_41, x_t_tells_42, x_t_tells_44, x_t_tells_47, x_t_tells_48, x_t_tells_51, x_t_tells_54, x_t_tells_56, x_t_tells_57, x_t_tells_58, x_t_tells_61, x_t_tells_62, x_t_tells_63, x_t_tells_65, x_t_tells_67, x_t_tells_70, x_t_tells_73, x_t_tells_75, x_t_tells_76, x_t_tells_77, x_t_tells_80, x_t_tells_82, x_t_tells_85, x_t_tells_88, x_t_tells_90, x_t_tells_91, x_t_tells_93, x_t_tells_96, x_t_tells_97, x_t_tells_100, x_t_tells_102, x_t_tells_103, x_t_tells_105, x_t_tells_106, x_t_tells_107, x_t_tells_110, x_t_tells_111, x_t_tells_112, x_t_tells_115, x_t_tells_116, x_t_tells_119, x_t_tells_121, x_t_tells_122, x_t_tells_123, x_t_tells_124, x_t_tells_127, x_t_tells_130, x_t_tells_131, x_t_tells_134, x_t_tells_136, x_t_tells_139, b01_eq0, q10, and_self, not_true_eq_false, if_false, q_sub, e3, hbl, XK_s]
          exact fin _ rfl
        · rw [if_neg p3]
          exact fin _ (if_neg p3)
  · have fin : Q1 (d + 12) t Ym_tells [.ref 118, .int x, .int y, .int z] (some (.int (-2))) (mk iv jv) := by
      refine Q1_i ?_
      rw [sp_m_tells_bad (d := d + 6) hG hB h]
      exact Q2_i (INV_r hT hC hG hM hS)
    unfold tOk isSh isLv at h
    by_cases p0 : ((10 : Nat) : Int) ≤ y.toInt ∧ y.toInt ≤ ((9 + G 29 : Nat) : Int)
    · by_cases p1 : ((0 : Nat) : Int) ≤ x.toInt ∧ x.toInt ≤ ((3 : Nat) : Int)
      · have p2 : ¬ (((0 : Nat) : Int) ≤ y.toInt ∧ y.toInt ≤ ((1 : Nat) : Int)) := by omega
        have p3 : ¬ (((0 : Nat) : Int) ≤ z.toInt ∧ z.toInt ≤ ((8 : Nat) : Int)) := by omega
        simp (disch := first | assumption | omega) only [e_t_tells, x_t_tells_0, x_t_tells_1, x_t_tells_3, x_t_tells_5, x_t_tells_6, x_t_tells_9, x_t_tells_12, x_t_tells_13, x_t_tells_16, x_t_tells_18, x_t_tells_19, x_t_tells_22, x_t_tells_25, x_t_tells_26, x_t_tells_27, x_t_tells_28, x_t_tells_31, x_t_tells_34, x_t_tells_36, x_t_tells_39, x_t_tells_41, x_t_tells_42, x_t_tells_44, x_t_tells_47, x_t_tells_48, x_t_tells_51, x_t_tells_54, x_t_tells_56, x_t_tells_57, x_t_tells_58, x_t_tells_61, x_t_tells_62, x_t_tells_63, x_t_tells_65, x_t_tells_67, x_t_tells_70, x_t_tells_73, x_t_tells_75, x_t_tells_76, x_t_tells_77, x_t_tells_80, x_t_tells_82, x_t_tells_85, x_t_tells_88, x_t_tells_90, x_t_tells_91, x_t_tells_93, x_t_tells_96, x_t_tells_97, x_t_tells_100, x_t_tells_102, x_t_tells_103, x_t_tells_105, x_t_tells_106, x_t_tells_107, x_t_tells_110, x_t_tells_111, x_t_tells_112, x_t_tells_115, x_t_tells_116, x_t_tells_119, x_t_tells_121, x_t_tells_122, x_t_tells_123, x_t_tells_124, x_t_tells_127, x_t_tells_130, x_t_tells_131, x_t_tells_134, x_t_tells_136, x_t_tells_139, f9, q_add, sp_within, sp_t_isSheet, sp_t_isLevel, XK_s, b01_eq0, eq_true p0, eq_true p1, eq_false p2, eq_false p3, not_true_eq_false, not_false_eq_true, if_false, if_true]
        exact fin
      · simp (disch := first | assumption | omega) only [e_t_tells, x_t_tells_0, x_t_tells_1, x_t_tells_3, x_t_tells_5, x_t_tells_6, x_t_tells_9, x_t_tells_12, x_t_tells_13, x_t_tells_16, x_t_tells_18, x_t_tells_19, x_t_tells_22, x_t_tells_25, x_t_tells_26, x_t_tells_27, x_t_tells_28, x_t_tells_31, x_t_tells_34, x_t_tells_36, x_t_tells_39, x_t_tells_41, x_t_tells_42, x_t_tells_44, x_t_tells_47, x_t_tells_48, x_t_tells_51, x_t_tells_54, x_t_tells_56, x_t_tells_57, x_t_tells_58, x_t_tells_61, x_t_tells_62, x_t_tells_63, x_t_tells_65, x_t_tells_67, x_t_tells_70, x_t_tells_73, x_t_tells_75, x_t_tells_76, x_t_tells_77, x_t_tells_80, x_t_tells_82, x_t_tells_85, x_t_tells_88, x_t_tells_90, x_t_tells_91, x_t_tells_93, x_t_tells_96, x_t_tells_97, x_t_tells_100, x_t_tells_102, x_t_tells_103, x_t_tells_105, x_t_tells_106, x_t_tells_107, x_t_tells_110, x_t_tells_111, x_t_tells_112, x_t_tells_115, x_t_tells_116, x_t_tells_119, x_t_tells_121, x_t_tells_122, x_t_tells_123, x_t_tells_124, x_t_tells_127, x_t_tells_130, x_t_tells_131, x_t_tells_134, x_t_tells_136, x_t_tells_139, f9, q_add, sp_within, sp_t_isSheet, XK_s, b01_eq0, eq_true p0, eq_false p1, not_true_eq_false, not_false_eq_true, if_false, if_true]
        exact fin
    · by_cases p1 : ((0 : Nat) : Int) ≤ x.toInt ∧ x.toInt ≤ ((3 : Nat) : Int)
      · have p2 : ¬ (((0 : Nat) : Int) ≤ y.toInt ∧ y.toInt ≤ ((1 : Nat) : Int)) := by omega
        simp (disch := first | assumption | omega) only [e_t_tells, x_t_tells_0, x_t_tells_1, x_t_tells_3, x_t_tells_5, x_t_tells_6, x_t_tells_9, x_t_tells_12, x_t_tells_13, x_t_tells_16, x_t_tells_18, x_t_tells_19, x_t_tells_22, x_t_tells_25, x_t_tells_26, x_t_tells_27, x_t_tells_28, x_t_tells_31, x_t_tells_34, x_t_tells_36, x_t_tells_39, x_t_tells_41, x_t_tells_42, x_t_tells_44, x_t_tells_47, x_t_tells_48, x_t_tells_51, x_t_tells_54, x_t_tells_56, x_t_tells_57, x_t_tells_58, x_t_tells_61, x_t_tells_62, x_t_tells_63, x_t_tells_65, x_t_tells_67, x_t_tells_70, x_t_tells_73, x_t_tells_75, x_t_tells_76, x_t_tells_77, x_t_tells_80, x_t_tells_82, x_t_tells_85, x_t_tells_88, x_t_tells_90, x_t_tells_91, x_t_tells_93, x_t_tells_96, x_t_tells_97, x_t_tells_100, x_t_tells_102, x_t_tells_103, x_t_tells_105, x_t_tells_106, x_t_tells_107, x_t_tells_110, x_t_tells_111, x_t_tells_112, x_t_tells_115, x_t_tells_116, x_t_tells_119, x_t_tells_121, x_t_tells_122, x_t_tells_123, x_t_tells_124, x_t_tells_127, x_t_tells_130, x_t_tells_131, x_t_tells_134, x_t_tells_136, x_t_tells_139, f9, q_add, sp_within, sp_t_isSheet, XK_s, b01_eq0, eq_false p0, eq_true p1, eq_false p2, not_true_eq_false, not_false_eq_true, if_false, if_true]
        exact fin
      · simp (disch := first | assumption | omega) only [e_t_tells, x_t_tells_0, x_t_tells_1, x_t_tells_3, x_t_tells_5, x_t_tells_6, x_t_tells_9, x_t_tells_12, x_t_tells_13, x_t_tells_16, x_t_tells_18, x_t_tells_19, x_t_tells_22, x_t_tells_25, x_t_tells_26, x_t_tells_27, x_t_tells_28, x_t_tells_31, x_t_tells_34, x_t_tells_36, x_t_tells_39, x_t_tells_41, x_t_tells_42, x_t_tells_44, x_t_tells_47, x_t_tells_48, x_t_tells_51, x_t_tells_54, x_t_tells_56, x_t_tells_57, x_t_tells_58, x_t_tells_61, x_t_tells_62, x_t_tells_63, x_t_tells_65, x_t_tells_67, x_t_tells_70, x_t_tells_73, x_t_tells_75, x_t_tells_76, x_t_tells_77, x_t_tells_80, x_t_tells_82, x_t_tells_85, x_t_tells_88, x_t_tells_90, x_t_tells_91, x_t_tells_93, x_t_tells_96, x_t_tells_97, x_t_tells_100, x_t_tells_102, x_t_tells_103, x_t_tells_105, x_t_tells_106, x_t_tells_107, x_t_tells_110, x_t_tells_111, x_t_tells_112, x_t_tells_115, x_t_tells_116, x_t_tells_119, x_t_tells_121, x_t_tells_122, x_t_tells_123, x_t_tells_124, x_t_tells_127, x_t_tells_130, x_t_tells_131, x_t_tells_134, x_t_tells_136, x_t_tells_139, f9, q_add, sp_within, sp_t_isSheet, XK_s, b01_eq0, eq_false p0, eq_false p1, not_true_eq_false, not_false_eq_true, if_false, if_true]
        exact fin
end PAIR7
