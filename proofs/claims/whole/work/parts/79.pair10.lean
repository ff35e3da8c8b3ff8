section PAIR10
variable {d t : Nat} {iv iv1 iv2 : mI} {jv jv1 jv2 : mJ} {G : Nat → Nat} {B : Nat} {Q : Option Value → mH → Prop}
theorem m2lt : ((-2 : Int32) < nI 0) = True := by simp; decide
theorem m4lt : ((-4 : Int32) < nI 0) = True := by simp; decide
theorem lp_t_load {s z N f : Nat} {x o y : Int32} {C : Nat → Int32} (hs : s < 4) (hN : N ≤ 8) (hf : f ≤ 40) (hz : z ≤ 40) (z1 : iv (110 + 2 * s) 1 = nI z) (hCc : ∀ i, i < z → iv (110 + 2 * s + 1) i = C i) : ∀ m k (G : Nat → Nat) c iv1 jv1, k + m = N → c ≤ k → CR 1 G iv1 jv1 → ST t G → FB 1 iv jv iv1 jv1 → (∀ iv' jv', FB 1 iv jv iv' jv' → CR 1 (ldF C z f m k G c).2 iv' jv' → ST t (ldF C z f m k G c).2 → Q (some (.int (ldV (ldF C z f m k G c).1))) (mk iv' jv')) → XT (d + 11) Yt_load 76 [.ref 0, .int x, .int o, .int y, .int (nI N), .ref (110 + 2 * s), .int (nI c), .int (nI (f + 4 * k)), .int (nI k)] [] iv1 jv1 Q := by
  obtain ⟨r0, r1⟩ := shH hs
  have n1 : (110 + 2 * s + 1 = 1001) = False := by apply eq_false; omega
  intro m
  induction m with
  | zero =>
    intro k G c iv1 jv1 hk hc hC hT hF hQ
    obtain rfl : k = N := by omega
    rw [x_t_load_76]
    simp (disch := first | assumption | omega) only [x_t_load_0, x_t_load_1, x_t_load_4, x_t_load_7, x_t_load_8, x_t_load_11, x_t_load_14, x_t_load_16, x_t_load_17, x_t_load_19, x_t_load_22, x_t_load_25, x_t_load_27, x_t_load_28, x_t_load_29, x_t_load_32, x_t_load_33, x_t_load_34, x_t_load_36, x_t_load_38, x_t_load_41, x_t_load_44, x_t_load_46, x_t_load_49, x_t_load_50, x_t_load_53, x_t_load_55, x_t_load_56, x_t_load_58, x_t_load_61, x_t_load_64, x_t_load_66, x_t_load_67, x_t_load_68, x_t_load_70, x_t_load_71, x_t_load_73, x_t_load_74, x_t_load_78, x_t_load_80, x_t_load_83, x_t_load_85, x_t_load_87, x_t_load_88, x_t_load_91, x_t_load_94, x_t_load_96, x_t_load_97, x_t_load_98, x_t_load_101, x_t_load_103, x_t_load_106, x_t_load_108, x_t_load_109, x_t_load_111, x_t_load_114, x_t_load_116, x_t_load_117, x_t_load_118, x_t_load_119, x_t_load_121, x_t_load_124, x_t_load_126, x_t_load_127, x_t_load_128, x_t_load_129, x_t_load_131, x_t_load_134, x_t_load_136, x_t_load_137, x_t_load_138, x_t_load_139, x_t_load_142, x_t_load_145, x_t_load_148, x_t_load_151, x_t_load_154, x_t_load_157, x_t_load_159, q_le, Nat.le_refl, if_true]
    exact hQ iv1 jv1 hF hC hT
  | succ m ih =>
    intro k G c iv1 jv1 hk hc hC hT hF hQ
    have hB := hT.1
    have b1 := hB.1
    have h4 : ¬ N ≤ k := by omega
    have z1' := (hF.1 (110 + 2 * s) 1 (by omega)).trans z1
    have e4 : (nI 4).toInt = ((4 : Nat) : Int) := nI_toI (by decide)
    have ef : (nI (f + 4 * k)).toInt = ((f + 4 * k : Nat) : Int) := nI_toI (by omega)
    rw [ldF_s] at hQ
    rw [x_t_load_76]
    by_cases p : f + 4 * k + 3 < z
    · rw [if_pos p] at hQ
      have p1 : 0 ≤ (nI (f + 4 * k)).toInt ∧ 0 ≤ (nI 4).toInt ∧ (nI (f + 4 * k)).toInt + (nI 4).toInt ≤ (z : Int) := by rw [ef, e4]; omega
      have c0 := (hF.1 (110 + 2 * s + 1) (f + 4 * k) (by omega)).trans (hCc _ (by omega))
      have c1' := (hF.1 (110 + 2 * s + 1) (f + 4 * k + 1) (by omega)).trans (hCc _ (by omega))
      have c2 := (hF.1 (110 + 2 * s + 1) (f + 4 * k + 2) (by omega)).trans (hCc _ (by omega))
      have c3 := (hF.1 (110 + 2 * s + 1) (f + 4 * k + 3) (by omega)).trans (hCc _ (by omega))
      have e8 : f + 4 * k + 4 = f + 4 * (k + 1) := by omega
      by_cases p2 : isS (C (f + 4 * k)) (C (f + 4 * k + 1)) (C (f + 4 * k + 2)) (C (f + 4 * k + 3))
      · have hsb := (isSb_iff _ _ _ _).mpr p2
        obtain ⟨⟨⟨a1, a2⟩, a3, a4⟩, ⟨a5, a6⟩, a7, a8⟩ := id p2
        obtain ⟨k1, g1⟩ := nat_of (m := 5) ⟨a1, a2⟩ (by decide)
        obtain ⟨k2, g2⟩ := nat_of (m := 2) ⟨a3, a4⟩ (by decide)
        obtain ⟨k3, g3⟩ := nat_of (m := 8) ⟨a5, a6⟩ (by decide)
        obtain ⟨k4, g4⟩ := nat_of (m := 3) (x := C (f + 4 * k + 3)) ⟨by omega, a8⟩ (by decide)
        have k5 : 1 ≤ (C (f + 4 * k + 3)).toInt.toNat := by omega
        by_cases p3 : G 29 = 8
        · have hq : ¬ ldQ G C (f + 4 * k) = true := by unfold ldQ; simp [p3]
          rw [if_neg hq] at hQ
          have h8 := ih (k + 1) G c iv1 jv1 (by omega) (by omega) hC hT hF hQ
          rw [g1] at c0
          rw [g2] at c1'
          rw [g3] at c2
          rw [g4] at c3
          generalize (C (f + 4 * k)).toInt.toNat = v1 at *
          generalize (C (f + 4 * k + 1)).toInt.toNat = v2 at *
          generalize (C (f + 4 * k + 2)).toInt.toNat = v3 at *
          generalize (C (f + 4 * k + 3)).toInt.toNat = v4 at *
          have hfu := fun (Q : Option Value → mH → Prop) => sp_o_addItem_full (d := d + 7) (jv := jv1) (Q := Q) k1 k2 k3 k5 k4 isB1 hC.1 p3
          simp (disch := first | assumption | omega) only [x_t_load_0, x_t_load_1, x_t_load_4, x_t_load_7, x_t_load_8, x_t_load_11, x_t_load_14, x_t_load_16, x_t_load_17, x_t_load_19, x_t_load_22, x_t_load_25, x_t_load_27, x_t_load_28, x_t_load_29, x_t_load_32, x_t_load_33, x_t_load_34, x_t_load_36, x_t_load_38, x_t_load_41, x_t_load_44, x_t_load_46, x_t_load_49, x_t_load_50, x_t_load_53, x_t_load_55, x_t_load_56, x_t_load_58, x_t_load_61, x_t_load_64, x_t_load_66, x_t_load_67, x_t_load_68, x_t_load_70, x_t_load_71, x_t_load_73, x_t_load_74, x_t_load_78, x_t_load_80, x_t_load_83, x_t_load_85, x_t_load_87, x_t_load_88, x_t_load_91, x_t_load_94, x_t_load_96, x_t_load_97, x_t_load_98, x_t_load_101, x_t_load_103, x_t_load_106, x_t_load_108, x_t_load_109, x_t_load_111, x_t_load_114, x_t_load_116, x_t_load_117, x_t_load_118, x_t_load_119, x_t_load_121, x_t_load_124, x_t_load_126, x_t_load_127, x_t_load_128, x_t_load_129, x_t_load_131, x_t_load_134, x_t_load_136, x_t_load_137, x_t_load_138, x_t_load_139, x_t_load_142, x_t_load_145, x_t_load_148, x_t_load_151, x_t_load_154, x_t_load_157, x_t_load_159, q_le, h4, if_false, if_true, r0, r1, n1, true_and, true_or, sp_h_has (nI (f + 4 * k)) (nI 4) r0 z1' hz, XK_s, b01_eq0, eq_true p1, not_true_eq_false, q_in, q_tn, c0, q_add, c1', c2, c3, hfu, m4lt, e8]
          exact h8
        · have p4 : G 29 < 8 := by omega
          have hq : ldQ G C (f + 4 * k) = true := by unfold ldQ; rw [hsb]; simp [p4]
          rw [if_pos hq] at hQ
          unfold ldG at hQ
          rw [g1] at c0
          rw [g2] at c1'
          rw [g3] at c2
          rw [g4] at c3
          generalize (C (f + 4 * k)).toInt.toNat = v1 at *
          generalize (C (f + 4 * k + 1)).toInt.toNat = v2 at *
          generalize (C (f + 4 * k + 2)).toInt.toNat = v3 at *
          generalize (C (f + 4 * k + 3)).toInt.toNat = v4 at *
          simp (disch := first | assumption | omega) only [x_t_load_0, x_t_load_1, x_t_load_4, x_t_load_7, x_t_load_8, x_t_load_11, x_t_load_14, x_t_load_16, x_t_load_17, x_t_load_19, x_t_load_22, x_t_load_25, x_t_load_27, x_t_load_28, x_t_load_29, x_t_load_32, x_t_load_33, x_t_load_34, x_t_load_36, x_t_load_38, x_t_load_41, x_t_load_44, x_t_load_46, x_t_load_49, x_t_load_50, x_t_load_53, x_t_load_55, x_t_load_56, x_t_load_58, x_t_load_61, x_t_load_64, x_t_load_66, x_t_load_67, x_t_load_68, x_t_load_70, x_t_load_71, x_t_load_73, x_t_load_74, x_t_load_78, x_t_load_80, x_t_load_83, x_t_load_85, x_t_load_87, x_t_load_88, x_t_load_91, x_t_load_94, x_t_load_96, x_t_load_97, x_t_load_98, x_t_load_101, x_t_load_103, x_t_load_106, x_t_load_108, x_t_load_109, x_t_load_111, x_t_load_114, x_t_load_116, x_t_load_117, x_t_load_118, x_t_load_119, x_t_load_121, x_t_load_124, x_t_load_126, x_t_load_127, x_t_load_128, x_t_load_129, x_t_load_131, x_t_load_134, x_t_load_136, x_t_load_137, x_t_load_138, x_t_load_139, x_t_load_142, x_t_load_145, x_t_load_148, x_t_load_151, x_t_load_154, x_t_load_157, x_t_load_159, q_le, h4, if_false, if_true, r0, r1, n1, true_and, true_or, sp_h_has (nI (f + 4 * k)) (nI 4) r0 z1' hz, XK_s, b01_eq0, eq_true p1, not_true_eq_false, q_in, q_tn, c0, q_add, c1', c2, c3]
          refine sp_o_addItem (d := d + 7) k1 k2 k3 k5 k4 isB1 hC hB hT.2.1 p4 (fun e => (hT.2.2.2.2.1 e).2) (fun iv2 hF2 hC2 => ?_)
          have hn0 : ¬ G 29 < 0 := by omega
          simp (disch := first | assumption | omega) only [XK_s, x_t_load_0, x_t_load_1, x_t_load_4, x_t_load_7, x_t_load_8, x_t_load_11, x_t_load_14, x_t_load_16, x_t_load_17, x_t_load_19, x_t_load_22, x_t_load_25, x_t_load_27, x_t_load_28, x_t_load_29, x_t_load_32, x_t_load_33, x_t_load_34, x_t_load_36, x_t_load_38, x_t_load_41, x_t_load_44, x_t_load_46, x_t_load_49, x_t_load_50, x_t_load_53, x_t_load_55, x_t_load_56, x_t_load_58, x_t_load_61, x_t_load_64, x_t_load_66, x_t_load_67, x_t_load_68, x_t_load_70, x_t_load_71, x_t_load_73, x_t_load_74, x_t_load_78, x_t_load_80, x_t_load_83, x_t_load_85, x_t_load_87, x_t_load_88, x_t_load_91, x_t_load_94, x_t_load_96, x_t_load_97, x_t_load_98, x_t_load_101, x_t_load_103, x_t_load_106, x_t_load_108, x_t_load_109, x_t_load_111, x_t_load_114, x_t_load_116, x_t_load_117, x_t_load_118, x_t_load_119, x_t_load_121, x_t_load_124, x_t_load_126, x_t_load_127, x_t_load_128, x_t_load_129, x_t_load_131, x_t_load_134, x_t_load_136, x_t_load_137, x_t_load_138, x_t_load_139, x_t_load_142, x_t_load_145, x_t_load_148, x_t_load_151, x_t_load_154, x_t_load_157, x_t_load_159, q_lt, hn0, if_false, q_add, e8]
          exact ih (k + 1) _ (c + 1) iv2 jv1 (by omega) (by omega) hC2 (ST_it hT k1 k2 k3 k4 p4) (FB_t hF hF2) hQ
      · have hq : ¬ ldQ G C (f + 4 * k) = true := fun e => p2 (ld_ok e).2
        rw [if_neg hq] at hQ
        have h8 := ih (k + 1) G c iv1 jv1 (by omega) (by omega) hC hT hF hQ
        have hba := fun (Q : Option Value → mH → Prop) => sp_o_addItem_bad (B := 1) (d := d + 7) (iv := iv1) (jv := jv1) (Q := Q) p2
        simp (disch := first | assumption | omega) only [x_t_load_0, x_t_load_1, x_t_load_4, x_t_load_7, x_t_load_8, x_t_load_11, x_t_load_14, x_t_load_16, x_t_load_17, x_t_load_19, x_t_load_22, x_t_load_25, x_t_load_27, x_t_load_28, x_t_load_29, x_t_load_32, x_t_load_33, x_t_load_34, x_t_load_36, x_t_load_38, x_t_load_41, x_t_load_44, x_t_load_46, x_t_load_49, x_t_load_50, x_t_load_53, x_t_load_55, x_t_load_56, x_t_load_58, x_t_load_61, x_t_load_64, x_t_load_66, x_t_load_67, x_t_load_68, x_t_load_70, x_t_load_71, x_t_load_73, x_t_load_74, x_t_load_78, x_t_load_80, x_t_load_83, x_t_load_85, x_t_load_87, x_t_load_88, x_t_load_91, x_t_load_94, x_t_load_96, x_t_load_97, x_t_load_98, x_t_load_101, x_t_load_103, x_t_load_106, x_t_load_108, x_t_load_109, x_t_load_111, x_t_load_114, x_t_load_116, x_t_load_117, x_t_load_118, x_t_load_119, x_t_load_121, x_t_load_124, x_t_load_126, x_t_load_127, x_t_load_128, x_t_load_129, x_t_load_131, x_t_load_134, x_t_load_136, x_t_load_137, x_t_load_138, x_t_load_139, x_t_load_142, x_t_load_145, x_t_load_148, x_t_load_151, x_t_load_154, x_t_load_157, x_t_load_159, q_le, h4, if_false, if_true, r0, r1, n1, true_and, true_or, sp_h_has (nI (f + 4 * k)) (nI 4) r0 z1' hz, XK_s, b01_eq0, eq_true p1, not_true_eq_false, q_in, q_tn, c0, q_add, c1', c2, c3, hba, m2lt, e8]
        exact h8
    · rw [if_neg p] at hQ
      have p1 : ¬ (0 ≤ (nI (f + 4 * k)).toInt ∧ 0 ≤ (nI 4).toInt ∧ (nI (f + 4 * k)).toInt + (nI 4).toInt ≤ (z : Int)) := by rw [ef, e4]; omega
      have hQ := hQ iv1 jv1 hF hC hT
      simp (disch := first | assumption | omega) only [x_t_load_0, x_t_load_1, x_t_load_4, x_t_load_7, x_t_load_8, x_t_load_11, x_t_load_14, x_t_load_16, x_t_load_17, x_t_load_19, x_t_load_22, x_t_load_25, x_t_load_27, x_t_load_28, x_t_load_29, x_t_load_32, x_t_load_33, x_t_load_34, x_t_load_36, x_t_load_38, x_t_load_41, x_t_load_44, x_t_load_46, x_t_load_49, x_t_load_50, x_t_load_53, x_t_load_55, x_t_load_56, x_t_load_58, x_t_load_61, x_t_load_64, x_t_load_66, x_t_load_67, x_t_load_68, x_t_load_70, x_t_load_71, x_t_load_73, x_t_load_74, x_t_load_78, x_t_load_80, x_t_load_83, x_t_load_85, x_t_load_87, x_t_load_88, x_t_load_91, x_t_load_94, x_t_load_96, x_t_load_97, x_t_load_98, x_t_load_101, x_t_load_103, x_t_load_106, x_t_load_108, x_t_load_109, x_t_load_111, x_t_load_114, x_t_load_116, x_t_load_117, x_t_load_118, x_t_load_119, x_t_load_121, x_t_load_124, x_t_load_126, x_t_load_127, x_t_load_128, x_t_load_129, x_t_load_131, x_t_load_134, x_t_load_136, x_t_load_137, x_t_load_138, x_t_load_139, x_t_load_142, x_t_load_145, x_t_load_148, x_t_load_151, x_t_load_154, x_t_load_157, x_t_load_159, q_le, h4, if_false, if_true, r0, true_and, sp_h_has (nI (f + 4 * k)) (nI 4) r0 z1' hz, XK_s, b01_eq0, eq_false p1, not_false_eq_true]
      exact hQ
theorem pr_load (hI : INV t iv jv) (x o f n : Int32) : XM (d + 12) Yt_load [.ref 0, .int x, .int o, .int f, .int n] iv jv (Q1 (d + 12) t Ym_load [.ref 118, .int x, .int o, .int f, .int n]) := by
  obtain ⟨G, hT, hC, hG, hM, hS⟩ := hI
  have hB := hT.1
  by_cases h : isL x o n
  · obtain ⟨hx, ho, hn⟩ := h
    obtain ⟨s, hs3, rfl⟩ := nat8 (m := 3) (x := x) hx (by decide)
    have hs : s < 4 := by omega
    obtain ⟨o', ho1, rfl⟩ := nat8 (m := 1) (x := o) ho (by decide)
    obtain ⟨N, hN, rfl⟩ := nat8 (m := 8) (x := n) hn (by decide)
    have hso : nI o' = nI 0 ∨ nI o' = nI 1 := by
      have : o' = 0 ∨ o' = 1 := by omega
      rcases this with rfl | rfl
      · exact Or.inl rfl
      · exact Or.inr rfl
    obtain ⟨r0, r1⟩ := shH hs
    obtain ⟨e0, e1, z, hz, z1, z2, hc⟩ := id (hS s hs)
    have hCr : ∀ i, i < z → iv 125 (40 * s + i) = iv (110 + 2 * s + 1) i := fun i hi => (hc i hi).symm
    by_cases p1 : iv (110 + 2 * s) 0 = -1
    · have q1 : iv 123 s = -1 := e0.symm.trans p1
      have fin : Q1 (d + 12) t Ym_load [.ref 118, .int (nI s), .int (nI o'), .int f, .int (nI N)] (some (.int (-11))) (mk iv jv) :=
        Q1_i (sp_m_load (d := d + 8) hs (show o' < 2 from by omega) hN rfl z2 hz hCr hG hB (fun _ => Q2_i (INV_r hT hC hG hM hS)) (fun e _ => absurd q1 e) (fun e => absurd (e.symm.trans q1) (by rw [nm0' (by omega)]; exact fun h => h)))
      simp (disch := first | assumption | omega) only [e_t_load, x_t_load_0, x_t_load_1, x_t_load_4, x_t_load_7, x_t_load_8, x_t_load_11, x_t_load_14, x_t_load_16, x_t_load_17, x_t_load_19, x_t_load_22, x_t_load_25, x_t_load_27, x_t_load_28, x_t_load_29, x_t_load_32, x_t_load_33, x_t_load_34, x_t_load_36, x_t_load_38, x_t_load_41, x_t_load_44, x_t_load_46, x_t_load_49, x_t_load_50, x_t_load_53, x_t_load_55, x_t_load_56, x_t_load_58, x_t_load_61, x_t_load_64, x_t_load_66, x_t_load_67, x_t_load_68, x_t_load_70, x_t_load_71, x_t_load_73, x_t_load_74, x_t_load_78, x_t_load_80, x_t_load_83, x_t_load_85, x_t_load_87, x_t_load_88, x_t_load_91, x_t_load_94, x_t_load_96, x_t_load_97, x_t_load_98, x_t_load_101, x_t_load_103, x_t_load_106, x_t_load_108, x_t_load_109, x_t_load_111, x_t_load_114, x_t_load_116, x_t_load_117, x_t_load_118, x_t_load_119, x_t_load_121, x_t_load_124, x_t_load_126, x_t_load_127, x_t_load_128, x_t_load_129, x_t_load_131, x_t_load_134, x_t_load_136, x_t_load_137, x_t_load_138, x_t_load_139, x_t_load_142, x_t_load_145, x_t_load_148, x_t_load_151, x_t_load_154, x_t_load_157, x_t_load_159, sp_tSN, sp_t_isSort, sp_withinN, XK_s, b01_eq0, hs3, eq_true hso, hN, Nat.zero_le, and_self, not_true_eq_false, if_false, q_in, q_tn, true_and, r0, sp_h_isMissing r0, eq_true p1]
      exact fin
    · have q1 : iv 123 s ≠ -1 := fun e => p1 (e0.trans e)
      by_cases p2 : iv (110 + 2 * s) 0 = nI o'
      · have q2 : iv 123 s = nI o' := e0.symm.trans p2
        have fin : ∀ iv1 jv1 r G', FB 1 iv jv iv1 jv1 → CR 1 G' iv1 jv1 → ST t G' → ldR G (iv (110 + 2 * s + 1)) z N f = (r, G') → Q1 (d + 12) t Ym_load [.ref 118, .int (nI s), .int (nI o'), .int f, .int (nI N)] (some (.int (ldV r))) (mk iv1 jv1) := fun iv1 jv1 r G' hF hC1 hT1 hr => by
          have hX := FX_1 hF
          refine Q1_i (sp_m_load (d := d + 8) (C := iv (110 + 2 * s + 1)) (z := z) hs (show o' < 2 from by omega) hN ((hX.1 123 s (by omega)).trans q2) ((hX.1 124 s (by omega)).trans z2) hz (fun i hi => (hX.1 125 _ (by omega)).trans (hCr i hi)) (FX_G hX hG) hB (fun e => absurd e (by rw [nm0' (by omega)]; exact fun h => h)) (fun _ e => absurd rfl e) (fun _ jv2 hG2 hF2 => ?_))
          rw [hr] at hG2 ⊢
          exact Q2_i (INV_mk hM hS hX hC1 (FW_9 hF2) hG2 (ST_s hT1))
        simp (disch := first | assumption | omega) only [e_t_load, x_t_load_0, x_t_load_1, x_t_load_4, x_t_load_7, x_t_load_8, x_t_load_11, x_t_load_14, x_t_load_16, x_t_load_17, x_t_load_19, x_t_load_22, x_t_load_25, x_t_load_27, x_t_load_28, x_t_load_29, x_t_load_32, x_t_load_33, x_t_load_34, x_t_load_36, x_t_load_38, x_t_load_41, x_t_load_44, x_t_load_46, x_t_load_49, x_t_load_50, x_t_load_53, x_t_load_55, x_t_load_56, x_t_load_58, x_t_load_61, x_t_load_64, x_t_load_66, x_t_load_67, x_t_load_68, x_t_load_70, x_t_load_71, x_t_load_73, x_t_load_74, x_t_load_78, x_t_load_80, x_t_load_83, x_t_load_85, x_t_load_87, x_t_load_88, x_t_load_91, x_t_load_94, x_t_load_96, x_t_load_97, x_t_load_98, x_t_load_101, x_t_load_103, x_t_load_106, x_t_load_108, x_t_load_109, x_t_load_111, x_t_load_114, x_t_load_116, x_t_load_117, x_t_load_118, x_t_load_119, x_t_load_121, x_t_load_124, x_t_load_126, x_t_load_127, x_t_load_128, x_t_load_129, x_t_load_131, x_t_load_134, x_t_load_136, x_t_load_137, x_t_load_138, x_t_load_139, x_t_load_142, x_t_load_145, x_t_load_148, x_t_load_151, x_t_load_154, x_t_load_157, x_t_load_159, sp_tSN, sp_t_isSort, sp_withinN, XK_s, b01_eq0, hs3, eq_true hso, hN, Nat.zero_le, and_self, not_true_eq_false, not_false_eq_true, if_false, if_true, q_in, q_tn, true_and, r0, sp_h_isMissing r0, eq_false p1, eq_true p2]
        unfold ldR at fin
        by_cases p3 : N = 0
        · subst p3
          rw [x_t_load_76]
          simp (disch := first | assumption | omega) only [x_t_load_0, x_t_load_1, x_t_load_4, x_t_load_7, x_t_load_8, x_t_load_11, x_t_load_14, x_t_load_16, x_t_load_17, x_t_load_19, x_t_load_22, x_t_load_25, x_t_load_27, x_t_load_28, x_t_load_29, x_t_load_32, x_t_load_33, x_t_load_34, x_t_load_36, x_t_load_38, x_t_load_41, x_t_load_44, x_t_load_46, x_t_load_49, x_t_load_50, x_t_load_53, x_t_load_55, x_t_load_56, x_t_load_58, x_t_load_61, x_t_load_64, x_t_load_66, x_t_load_67, x_t_load_68, x_t_load_70, x_t_load_71, x_t_load_73, x_t_load_74, x_t_load_78, x_t_load_80, x_t_load_83, x_t_load_85, x_t_load_87, x_t_load_88, x_t_load_91, x_t_load_94, x_t_load_96, x_t_load_97, x_t_load_98, x_t_load_101, x_t_load_103, x_t_load_106, x_t_load_108, x_t_load_109, x_t_load_111, x_t_load_114, x_t_load_116, x_t_load_117, x_t_load_118, x_t_load_119, x_t_load_121, x_t_load_124, x_t_load_126, x_t_load_127, x_t_load_128, x_t_load_129, x_t_load_131, x_t_load_134, x_t_load_136, x_t_load_137, x_t_load_138, x_t_load_139, x_t_load_142, x_t_load_145, x_t_load_148, x_t_load_151, x_t_load_154, x_t_load_157, x_t_load_159, q_le, Nat.le_refl, if_true]
          exact fin iv jv (some 0) G (FB_r _ _ _) hC hT (if_pos rfl)
        · rw [if_neg p3] at fin
          by_cases p4 : 0 ≤ f.toInt ∧ f.toInt < (z : Int)
          · rw [if_pos p4] at fin
            obtain ⟨f', hf', rfl⟩ := inR_of (x := f) (m := 39) ⟨p4.1, by omega⟩ (by decide)
            have ef : (nI f').toInt.toNat = f' := by rw [nI_toI (by omega)]; rfl
            rw [ef] at fin
            have key := lp_t_load (d := d) (t := t) (Q := Q1 (d + 12) t Ym_load [.ref 118, .int (nI s), .int (nI o'), .int (nI f'), .int (nI N)]) (x := nI s) (o := nI o') (y := nI f') (C := iv (110 + 2 * s + 1)) hs hN (show f' ≤ 40 from by omega) hz z1 (fun _ _ => rfl) N 0 G 0 iv jv (by omega) (by omega) hC hT (FB_r _ _ _) (fun iv1 jv1 hF hC1 hT1 => fin iv1 jv1 _ _ hF hC1 hT1 rfl)
            rw [Nat.mul_zero, Nat.add_zero] at key
            exact key
          · rw [if_neg p4] at fin
            have e4 : (nI 4).toInt = ((4 : Nat) : Int) := nI_toI (by decide)
            have h4 : ¬ N ≤ 0 := by omega
            have k1 : ¬ (0 ≤ f.toInt ∧ 0 ≤ (nI 4).toInt ∧ f.toInt + (nI 4).toInt ≤ (z : Int)) := by rw [e4]; omega
            rw [x_t_load_76]
            simp (disch := first | assumption | omega) only [x_t_load_0, x_t_load_1, x_t_load_4, x_t_load_7, x_t_load_8, x_t_load_11, x_t_load_14, x_t_load_16, x_t_load_17, x_t_load_19, x_t_load_22, x_t_load_25, x_t_load_27, x_t_load_28, x_t_load_29, x_t_load_32, x_t_load_33, x_t_load_34, x_t_load_36, x_t_load_38, x_t_load_41, x_t_load_44, x_t_load_46, x_t_load_49, x_t_load_50, x_t_load_53, x_t_load_55, x_t_load_56, x_t_load_58, x_t_load_61, x_t_load_64, x_t_load_66, x_t_load_67, x_t_load_68, x_t_load_70, x_t_load_71, x_t_load_73, x_t_load_74, x_t_load_78, x_t_load_80, x_t_load_83, x_t_load_85, x_t_load_87, x_t_load_88, x_t_load_91, x_t_load_94, x_t_load_96, x_t_load_97, x_t_load_98, x_t_load_101, x_t_load_103, x_t_load_106, x_t_load_108, x_t_load_109, x_t_load_111, x_t_load_114, x_t_load_116, x_t_load_117, x_t_load_118, x_t_load_119, x_t_load_121, x_t_load_124, x_t_load_126, x_t_load_127, x_t_load_128, x_t_load_129, x_t_load_131, x_t_load_134, x_t_load_136, x_t_load_137, x_t_load_138, x_t_load_139, x_t_load_142, x_t_load_145, x_t_load_148, x_t_load_151, x_t_load_154, x_t_load_157, x_t_load_159, q_le, h4, if_false, if_true, r0, true_and, sp_h_has f (nI 4) r0 z1 hz, XK_s, b01_eq0, eq_false k1, not_false_eq_true]
            exact fin iv jv none G (FB_r _ _ _) hC hT rfl
      · have q2 : iv 123 s ≠ nI o' := fun e => p2 (e0.trans e)
        simp (disch := first | assumption | omega) only [e_t_load, x_t_load_0, x_t_load_1, x_t_load_4, x_t_load_7, x_t_load_8, x_t_load_11, x_t_load_14, x_t_load_16, x_t_load_17, x_t_load_19, x_t_load_22, x_t_load_25, x_t_load_27, x_t_load_28, x_t_load_29, x_t_load_32, x_t_load_33, x_t_load_34, x_t_load_36, x_t_load_38, x_t_load_41, x_t_load_44, x_t_load_46, x_t_load_49, x_t_load_50, x_t_load_53, x_t_load_55, x_t_load_56, x_t_load_58, x_t_load_61, x_t_load_64, x_t_load_66, x_t_load_67, x_t_load_68, x_t_load_70, x_t_load_71, x_t_load_73, x_t_load_74, x_t_load_78, x_t_load_80, x_t_load_83, x_t_load_85, x_t_load_87, x_t_load_88, x_t_load_91, x_t_load_94, x_t_load_96, x_t_load_97, x_t_load_98, x_t_load_101, x_t_load_103, x_t_load_106, x_t_load_108, x_t_load_109, x_t_load_111, x_t_load_114, x_t_load_116, x_t_load_117, x_t_load_118, x_t_load_119, x_t_load_121, x_t_load_124, x_t_load_126, x_t_load_127, x_t_load_128, x_t_load_129, x_t_load_131, x_t_load_134, x_t_load_136, x_t_load_137, x_t_load_138, x_t_load_139, x_t_load_142, x_t_load_145, x_t_load_148, x_t_load_151, x_t_load_154, x_t_load_157, x_t_load_159, sp_tSN, sp_t_isSort, sp_withinN, XK_s, b01_eq0, hs3, eq_true hso, hN, Nat.zero_le, and_self, not_true_eq_false, not_false_eq_true, if_false, if_true, q_in, q_tn, true_and, r0, sp_h_isMissing r0, eq_false p1, eq_false p2]
        exact Q1_i (sp_m_load (d := d + 8) hs (show o' < 2 from by omega) hN rfl z2 hz hCr hG hB (fun e => absurd e q1) (fun _ _ => Q2_i (INV_r hT hC hG hM hS)) (fun e => absurd e q2))
  · have fin : Q1 (d + 12) t Ym_load [.ref 118, .int x, .int o, .int f, .int n] (some (.int (-2))) (mk iv jv) := by
      refine Q1_i ?_
      rw [sp_m_load_bad (d := d + 8) h]
      exact Q2_i (INV_r hT hC hG hM hS)
    unfold isL isSh i01 at h
    by_cases p1 : ((0 : Nat) : Int) ≤ x.toInt ∧ x.toInt ≤ ((3 : Nat) : Int)
    · by_cases p2 : o = nI 0 ∨ o = nI 1
      · have p2' : 0 ≤ o.toInt ∧ o.toInt ≤ 1 := by
          rcases p2 with rfl | rfl <;> decide
        have p3 : ¬ (((0 : Nat) : Int) ≤ n.toInt ∧ n.toInt ≤ ((8 : Nat) : Int)) := by omega
        simp (disch := first | assumption | omega) only [e_t_load, x_t_load_0, x_t_load_1, x_t_load_4, x_t_load_7, x_t_load_8, x_t_load_11, x_t_load_14, x_t_load_16, x_t_load_17, x_t_load_19, x_t_load_22, x_t_load_25, x_t_load_27, x_t_load_28, x_t_load_29, x_t_load_32, x_t_load_33, x_t_load_34, x_t_load_36, x_t_load_38, x_t_load_41, x_t_load_44, x_t_load_46, x_t_load_49, x_t_load_50, x_t_load_53, x_t_load_55, x_t_load_56, x_t_load_58, x_t_load_61, x_t_load_64, x_t_load_66, x_t_load_67, x_t_load_68, x_t_load_70, x_t_load_71, x_t_load_73, x_t_load_74, x_t_load_78, x_t_load_80, x_t_load_83, x_t_load_85, x_t_load_87, x_t_load_88, x_t_load_91, x_t_load_94, x_t_load_96, x_t_load_97, x_t_load_98, x_t_load_101, x_t_load_103, x_t_load_106, x_t_load_108, x_t_load_109, x_t_load_111, x_t_load_114, x_t_load_116, x_t_load_117, x_t_load_118, x_t_load_119, x_t_load_121, x_t_load_124, x_t_load_126, x_t_load_127, x_t_load_128, x_t_load_129, x_t_load_131, x_t_load_134, x_t_load_136, x_t_load_137, x_t_load_138, x_t_load_139, x_t_load_142, x_t_load_145, x_t_load_148, x_t_load_151, x_t_load_154, x_t_load_157, x_t_load_159, sp_t_isSheet, sp_t_isSort, sp_within, XK_s, b01_eq0, eq_true p1, eq_true p2, eq_false p3, not_true_eq_false, not_false_eq_true, if_false, if_true]
        exact fin
      · simp (disch := first | assumption | omega) only [e_t_load, x_t_load_0, x_t_load_1, x_t_load_4, x_t_load_7, x_t_load_8, x_t_load_11, x_t_load_14, x_t_load_16, x_t_load_17, x_t_load_19, x_t_load_22, x_t_load_25, x_t_load_27, x_t_load_28, x_t_load_29, x_t_load_32, x_t_load_33, x_t_load_34, x_t_load_36, x_t_load_38, x_t_load_41, x_t_load_44, x_t_load_46, x_t_load_49, x_t_load_50, x_t_load_53, x_t_load_55, x_t_load_56, x_t_load_58, x_t_load_61, x_t_load_64, x_t_load_66, x_t_load_67, x_t_load_68, x_t_load_70, x_t_load_71, x_t_load_73, x_t_load_74, x_t_load_78, x_t_load_80, x_t_load_83, x_t_load_85, x_t_load_87, x_t_load_88, x_t_load_91, x_t_load_94, x_t_load_96, x_t_load_97, x_t_load_98, x_t_load_101, x_t_load_103, x_t_load_106, x_t_load_108, x_t_load_109, x_t_load_111, x_t_load_114, x_t_load_116, x_t_load_117, x_t_load_118, x_t_load_119, x_t_load_121, x_t_load_124, x_t_load_126, x_t_load_127, x_t_load_128, x_t_load_129, x_t_load_131, x_t_load_134, x_t_load_136, x_t_load_137, x_t_load_138, x_t_load_139, x_t_load_142, x_t_load_145, x_t_load_148, x_t_load_151, x_t_load_154, x_t_load_157, x_t_load_159, sp_t_isSheet, sp_t_isSort, XK_s, b01_eq0, eq_true p1, eq_false p2, not_true_eq_false, not_false_eq_true, if_false, if_true]
        exact fin
    · simp (disch := first | assumption | omega) only [e_t_load, x_t_load_0, x_t_load_1, x_t_load_4, x_t_load_7, x_t_load_8, x_t_load_11, x_t_load_14, x_t_load_16, x_t_load_17, x_t_load_19, x_t_load_22, x_t_load_25, x_t_load_27, x_t_load_28, x_t_load_29, x_t_load_32, x_t_load_33, x_t_load_34, x_t_load_36, x_t_load_38, x_t_load_41, x_t_load_44, x_t_load_46, x_t_load_49, x_t_load_50, x_t_load_53, x_t_load_55, x_t_load_56, x_t_load_58, x_t_load_61, x_t_load_64, x_t_load_66, x_t_load_67, x_t_load_68, x_t_load_70, x_t_load_71, x_t_load_73, x_t_load_74, x_t_load_78, x_t_load_80, x_t_load_83, x_t_load_85, x_t_load_87, x_t_load_88, x_t_load_91, x_t_load_94, x_t_load_96, x_t_load_97, x_t_load_98, x_t_load_101, x_t_load_103, x_t_load_106, x_t_load_108, x_t_load_109, x_t_load_111, x_t_load_114, x_t_load_116, x_t_load_117, x_t_load_118, x_t_load_119, x_t_load_121, x_t_load_124, x_t_load_126, x_t_load_127, x_t_load_128, x_t_load_129, x_t_load_131, x_t_load_134, x_t_load_136, x_t_load_137, x_t_load_138, x_t_load_139, x_t_load_142, x_t_load_145, x_t_load_148, x_t_load_151, x_t_load_154, x_t_load_157, x_t_load_159, sp_t_isSheet, XK_s, b01_eq0, eq_false p1, not_false_eq_true, if_true]
      exact fin
end PAIR10
