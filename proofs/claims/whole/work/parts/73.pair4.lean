section PAIR4
variable {d t : Nat} {iv : mI} {jv : mJ} {G : Nat → Nat} {B : Nat} {Q : Option Value → mH → Prop}
def mayB (G : Nat → Nat) (i : Nat) : Bool := frB G i && decide (inK G (G (37 + 6 * i + 1)) < G (21 + G (37 + 6 * i + 1)))
theorem mayA_B (G : Nat → Nat) (i : Nat) : mayA G i = ((G 34 == 1) && mayB G i) := by
  unfold mayA mayB frB
  cases (G 34 == 1) <;> cases (G 35).testBit i <;> cases (askB G (G 36)).testBit i <;> simp
theorem sp_o_mayBeAsked {i : Nat} (hb : isB B) (hC : CR B G iv jv) (hB : IB G) (hi : i < G 29) : XM (d + 2) Yo_mayBeAsked [.ref B, .int (nI i)] iv jv Q = Q (some (.int (b01 (mayB G i = true)))) (mk iv jv) := by
  obtain ⟨⟨c4, c5, c6, c7, c9, c11, c14⟩, cp, ca, cb, cw, ck, cm, ci, ch⟩ := id hC
  obtain ⟨s0, s1, s2, s3, s4, s5, s6, s7, s8, s9, s10, s11⟩ := sB hb
  have b1 := hB.1
  have hi8 : i < 8 := by omega
  have e18 : ((18 : Nat) = 18 ∨ (18 : Nat) = 19) = True := by simp
  obtain ⟨t0, t1, t2⟩ := sI hb hi8
  obtain ⟨⟨f0, f1, f2, f3, f4, f5, f6, f7⟩, fr, ft⟩ := ci i hi
  have b4 := (hB.2.2.2.1 i hi8).2.1
  have ha := (ca (G (37 + 6 * i + 1)) (by omega)).2.1
  have b7 := (hB.2.2.2.2.2.2.1 (G (37 + 6 * i + 1)) (by omega)).2
  have i0 := inA_le G (askB G (G 36)) (G (37 + 6 * i + 1)) (G 29)
  have eK : inA G (askB G (G 36)) (G (37 + 6 * i + 1)) (G 29) = inK G (G (37 + 6 * i + 1)) := rfl
  have n3 := ne1001 (k := 3) hb (by decide)
  have hfree := fun (Q : Option Value → mH → Prop) => sp_free (d := d) (Q := Q) (i := i) hb hC hB hi
  have hask := fun (Q : Option Value → mH → Prop) => sp_o_askedOf (d := d) (Q := Q) (a := G (37 + 6 * i + 1)) hb hC hB (by omega)
  unfold mayB
  by_cases p1 : frB G i = true
  · by_cases p2 : inK G (G (37 + 6 * i + 1)) < G (21 + G (37 + 6 * i + 1))
    · have p2' : ¬ G (21 + G (37 + 6 * i + 1)) ≤ inK G (G (37 + 6 * i + 1)) := by omega
      rw [p1, decide_eq_true p2, Bool.true_and, b01_t rfl]
      simp (disch := first | assumption | omega) only [e_o_mayBeAsked, x_o_mayBeAsked_0, x_o_mayBeAsked_1, x_o_mayBeAsked_4, x_o_mayBeAsked_5, x_o_mayBeAsked_6, x_o_mayBeAsked_9, x_o_mayBeAsked_12, x_o_mayBeAsked_13, x_o_mayBeAsked_14, x_o_mayBeAsked_17, x_o_mayBeAsked_18, x_o_mayBeAsked_19, x_o_mayBeAsked_22, x_o_mayBeAsked_25, x_o_mayBeAsked_26, x_o_mayBeAsked_29, x_o_mayBeAsked_30, x_o_mayBeAsked_33, x_o_mayBeAsked_34, x_o_mayBeAsked_35, x_o_mayBeAsked_38, x_o_mayBeAsked_39, x_o_mayBeAsked_42, x_o_mayBeAsked_43, x_o_mayBeAsked_46, x_o_mayBeAsked_47, s0, s3, s5, e18, n3, true_and, true_or, or_true, q_in, q_tn, rI hb, t0, f1, hfree, hask, XK_s, b01_eq0, eq_true p1, not_true_eq_false, if_false, ha, q_le, q_lt, p2, p2', if_true, z11]
    · have p2' : G (21 + G (37 + 6 * i + 1)) ≤ inK G (G (37 + 6 * i + 1)) := by omega
      rw [decide_eq_false p2, Bool.and_false, b01_f (by decide)]
      simp (disch := first | assumption | omega) only [e_o_mayBeAsked, x_o_mayBeAsked_0, x_o_mayBeAsked_1, x_o_mayBeAsked_4, x_o_mayBeAsked_5, x_o_mayBeAsked_6, x_o_mayBeAsked_9, x_o_mayBeAsked_12, x_o_mayBeAsked_13, x_o_mayBeAsked_14, x_o_mayBeAsked_17, x_o_mayBeAsked_18, x_o_mayBeAsked_19, x_o_mayBeAsked_22, x_o_mayBeAsked_25, x_o_mayBeAsked_26, x_o_mayBeAsked_29, x_o_mayBeAsked_30, x_o_mayBeAsked_33, x_o_mayBeAsked_34, x_o_mayBeAsked_35, x_o_mayBeAsked_38, x_o_mayBeAsked_39, x_o_mayBeAsked_42, x_o_mayBeAsked_43, x_o_mayBeAsked_46, x_o_mayBeAsked_47, s0, s3, s5, e18, n3, true_and, true_or, or_true, q_in, q_tn, rI hb, t0, f1, hfree, hask, XK_s, b01_eq0, eq_true p1, not_true_eq_false, if_false, ha, q_le, q_lt, p2, p2', if_true, z01]
  · have p1' : frB G i = false := by simpa using p1
    rw [p1', Bool.false_and, b01_f (by decide)]
    simp (disch := first | assumption | omega) only [e_o_mayBeAsked, x_o_mayBeAsked_0, x_o_mayBeAsked_1, x_o_mayBeAsked_4, x_o_mayBeAsked_5, x_o_mayBeAsked_6, x_o_mayBeAsked_9, x_o_mayBeAsked_12, x_o_mayBeAsked_13, x_o_mayBeAsked_14, x_o_mayBeAsked_17, x_o_mayBeAsked_18, x_o_mayBeAsked_19, x_o_mayBeAsked_22, x_o_mayBeAsked_25, x_o_mayBeAsked_26, x_o_mayBeAsked_29, x_o_mayBeAsked_30, x_o_mayBeAsked_33, x_o_mayBeAsked_34, x_o_mayBeAsked_35, x_o_mayBeAsked_38, x_o_mayBeAsked_39, x_o_mayBeAsked_42, x_o_mayBeAsked_43, x_o_mayBeAsked_46, x_o_mayBeAsked_47, s0, s3, s5, e18, n3, true_and, true_or, or_true, q_in, q_tn, rI hb, t0, f1, hfree, XK_s, b01_eq0, eq_false p1, not_false_eq_true, if_true, z01]
theorem ST_as {i r : Nat} (hT : ST t G) (ht : t < 900) (hi : i < G 29) (hr : r < 2) (h36 : G 36 < 8) (hfr : (askB G (G 36)).testBit i = false) (hon : G 34 = 1) : ST (t + 1) (asG G i r) := by
  obtain ⟨hB, b, c, e, f, g, h⟩ := hT
  have b1 := hB.1
  have hi8 : i < 8 := by omega
  refine ⟨IB_as hB hi8 hr h36 (by have := g i hi8; omega), DS_as b hi h36 hi8 hfr, ?_, nz_as e hi8, fun hon' => ?_, fun j hj => ?_, ?_⟩
  · obtain ⟨l, hl, h0⟩ := c
    exact ⟨l, hl, by rw [asG_ne (by omega) (by omega) (by omega) (by omega)]; exact h0⟩
  · rw [asG_ne (by omega) (by omega) (by omega) (by omega)] at hon'
    exact absurd hon hon'
  · by_cases ej : j = i
    · subst ej; rw [asG_g hj]; have := g _ hj; omega
    · rw [asG_ne (by omega) (by omega) (by omega) (by omega)]; have := g _ hj; omega
  · rw [asG_ne (by omega) (by omega) (by omega) (by omega)]; omega
theorem pr_answer (hI : INV t iv jv) (ht : t < 900) (x y : Int32) : XM (d + 12) Yt_answer [.ref 0, .int x, .int y] iv jv (Q1 (d + 12) t Ym_answer [.ref 118, .int x, .int y]) := by
  obtain ⟨G, hT, hC, hG, hM, hS⟩ := hI
  have hB := hT.1
  have b34 : G 34 ≤ 1 := hB.2.2.2.2.2.2.2.2.2.2.2.2
  obtain ⟨cf, cp, ca, cb, cw, ck, ci⟩ := cr1 hC
  have f11 := cf.2.2.2.2.2.1
  by_cases h : isA G x y
  · obtain ⟨i, hi, hi8, rfl⟩ := natIt hB h.1
    obtain ⟨r, hr, rfl⟩ := nat8 (m := 1) (x := y) h.2 (by decide)
    have oI := fun (Q : Option Value → mH → Prop) => sp_oIN (d := d + 9) (jv := jv) (Q := Q) (show i < 2147483648 from by omega) isB1 hC.1 hB
    have oM := fun (Q : Option Value → mH → Prop) => sp_o_mayBeAsked (d := d + 9) (Q := Q) isB1 hC hB hi
    have fin : mayA G i = false → Q1 (d + 12) t Ym_answer [.ref 118, .int (nI i), .int (nI r)] (some (.int (-3))) (mk iv jv) := fun hm => by
      refine Q1_i (sp_m_answer (d := d + 8) hi (by omega) hG hB hT.2.1 (fun _ => Q2_i (INV_r hT hC hG hM hS)) (fun e => ?_))
      rw [hm] at e; exact absurd e (by decide)
    by_cases p : G 34 = 1
    · have p0 : ¬ G 34 = 0 := by omega
      by_cases p2 : mayB G i = true
      · have hm : mayA G i = true := by rw [mayA_B, p2]; simp [p]
        have p3 : frB G i = true := by unfold mayB at p2; rw [Bool.and_eq_true] at p2; exact p2.1
        have hfr := ((frB_iff G i).mp p3).1
        have h36 := free_36 hB hT.2.1 hi8 hfr
        simp (disch := first | assumption | omega) only [e_t_answer, x_t_answer_0, x_t_answer_1, x_t_answer_4, x_t_answer_5, x_t_answer_8, x_t_answer_11, x_t_answer_12, x_t_answer_13, x_t_answer_14, x_t_answer_17, x_t_answer_20, x_t_answer_22, x_t_answer_23, x_t_answer_24, x_t_answer_27, x_t_answer_30, x_t_answer_33, x_t_answer_34, x_t_answer_37, x_t_answer_38, x_t_answer_41, x_t_answer_44, x_t_answer_46, x_t_answer_47, x_t_answer_48, x_t_answer_51, x_t_answer_52, x_t_answer_53, x_t_answer_56, x_t_answer_57, x_t_answer_60, x_t_answer_63, oI, sp_withinN, XK_s, b01_eq0, hi, hr, Nat.zero_le, and_self, not_true_eq_false, if_false, f11, qn0, p0, oM, eq_true p2]
        refine sp_o_ask (d := d + 6) isB1 hC hB hT.2.1 hT.2.2.2.1 hi (by omega) h36 hfr (fun iv1 jv1 hF hC1 => ?_)
        have f14 := hC1.1.2.2.2.2.2.2
        rw [asG_36] at f14
        simp (disch := first | assumption | omega) only [XK_n, x_t_answer_0, x_t_answer_1, x_t_answer_4, x_t_answer_5, x_t_answer_8, x_t_answer_11, x_t_answer_12, x_t_answer_13, x_t_answer_14, x_t_answer_17, x_t_answer_20, x_t_answer_22, x_t_answer_23, x_t_answer_24, x_t_answer_27, x_t_answer_30, x_t_answer_33, x_t_answer_34, x_t_answer_37, x_t_answer_38, x_t_answer_41, x_t_answer_44, x_t_answer_46, x_t_answer_47, x_t_answer_48, x_t_answer_51, x_t_answer_52, x_t_answer_53, x_t_answer_56, x_t_answer_57, x_t_answer_60, x_t_answer_63, f14]
        refine Q1_i (sp_m_answer (d := d + 8) hi (by omega) (FX_G (FX_1 hF) hG) hB hT.2.1 (fun e => ?_) (fun _ jv2 hG2 hF2 => Q2_i (INV_mk hM hS (FX_1 hF) hC1 (FW_9 hF2) hG2 (ST_as hT ht hi (by omega) h36 hfr p))))
        rw [hm] at e; exact absurd e (by decide)
      · have hm : mayA G i = false := by rw [mayA_B]; simp [p2]
        simp (disch := first | assumption | omega) only [e_t_answer, x_t_answer_0, x_t_answer_1, x_t_answer_4, x_t_answer_5, x_t_answer_8, x_t_answer_11, x_t_answer_12, x_t_answer_13, x_t_answer_14, x_t_answer_17, x_t_answer_20, x_t_answer_22, x_t_answer_23, x_t_answer_24, x_t_answer_27, x_t_answer_30, x_t_answer_33, x_t_answer_34, x_t_answer_37, x_t_answer_38, x_t_answer_41, x_t_answer_44, x_t_answer_46, x_t_answer_47, x_t_answer_48, x_t_answer_51, x_t_answer_52, x_t_answer_53, x_t_answer_56, x_t_answer_57, x_t_answer_60, x_t_answer_63, oI, sp_withinN, XK_s, b01_eq0, hi, hr, Nat.zero_le, and_self, not_true_eq_false, not_false_eq_true, if_true, if_false, f11, qn0, p0, oM, eq_false p2]
        exact fin hm
    · have p0 : G 34 = 0 := by omega
      have hm : mayA G i = false := by rw [mayA_B]; simp [p0]
      simp (disch := first | assumption | omega) only [e_t_answer, x_t_answer_0, x_t_answer_1, x_t_answer_4, x_t_answer_5, x_t_answer_8, x_t_answer_11, x_t_answer_12, x_t_answer_13, x_t_answer_14, x_t_answer_17, x_t_answer_20, x_t_answer_22, x_t_answer_23, x_t_answer_24, x_t_answer_27, x_t_answer_30, x_t_answer_33, x_t_answer_34, x_t_answer_37, x_t_answer_38, x_t_answer_41, x_t_answer_44, x_t_answer_46, x_t_answer_47, x_t_answer_48, x_t_answer_51, x_t_answer_52, x_t_answer_53, x_t_answer_56, x_t_answer_57, x_t_answer_60, x_t_answer_63, oI, sp_withinN, XK_s, b01_eq0, hi, hr, Nat.zero_le, and_self, not_true_eq_false, if_true, if_false, f11, qn0, p0]
      exact fin hm
  · have fin : Q1 (d + 12) t Ym_answer [.ref 118, .int x, .int y] (some (.int (-2))) (mk iv jv) := by
      refine Q1_i ?_
      rw [sp_m_answer_bad (d := d + 8) hG hB h]
      exact Q2_i (INV_r hT hC hG hM hS)
    unfold isA isIt i01 at h
    by_cases p1 : 0 ≤ x.toInt ∧ x.toInt < (G 29 : Int)
    · have p3 : ¬ (((0 : Nat) : Int) ≤ y.toInt ∧ y.toInt ≤ ((1 : Nat) : Int)) := by omega
      simp (disch := first | assumption | omega) only [e_t_answer, x_t_answer_0, x_t_answer_1, x_t_answer_4, x_t_answer_5, x_t_answer_8, x_t_answer_11, x_t_answer_12, x_t_answer_13, x_t_answer_14, x_t_answer_17, x_t_answer_20, x_t_answer_22, x_t_answer_23, x_t_answer_24, x_t_answer_27, x_t_answer_30, x_t_answer_33, x_t_answer_34, x_t_answer_37, x_t_answer_38, x_t_answer_41, x_t_answer_44, x_t_answer_46, x_t_answer_47, x_t_answer_48, x_t_answer_51, x_t_answer_52, x_t_answer_53, x_t_answer_56, x_t_answer_57, x_t_answer_60, x_t_answer_63, sp_o_isItem x isB1 hC.1 hB, sp_within, XK_s, b01_eq0, eq_true p1, eq_false p3, not_true_eq_false, not_false_eq_true, if_false, if_true]
      exact fin
    · simp (disch := first | assumption | omega) only [e_t_answer, x_t_answer_0, x_t_answer_1, x_t_answer_4, x_t_answer_5, x_t_answer_8, x_t_answer_11, x_t_answer_12, x_t_answer_13, x_t_answer_14, x_t_answer_17, x_t_answer_20, x_t_answer_22, x_t_answer_23, x_t_answer_24, x_t_answer_27, x_t_answer_30, x_t_answer_33, x_t_answer_34, x_t_answer_37, x_t_answer_38, x_t_answer_41, x_t_answer_44, x_t_answer_46, x_t_answer_47, x_t_answer_48, x_t_answer_51, x_t_answer_52, x_t_answer_53, x_t_answer_56, x_t_answer_57, x_t_answer_60, x_t_answer_63, sp_o_isItem x isB1 hC.1 hB, XK_s, b01_eq0, eq_false p1, not_false_eq_true, if_true]
      exact fin
/-! end -/
theorem ST_end (hT : ST t G) : ST t (endG G) := by
  obtain ⟨hB, b, c, e, f, g, h⟩ := hT
  have u : ∀ j, j ≠ 34 → j ≠ 35 → j ≠ 36 → endG G j = G j := fun j h1 h2 h3 => endG_ne h1 h2 h3
  refine ⟨?_, fun j hj => ?_, ?_, ?_, fun hon => ⟨endG_36 G, endG_35 G⟩, fun i hi => ?_, ?_⟩
  · obtain ⟨b1, b2, b3, b4, b5, b6, b7, b8, b9, b10, b11, b12, b13⟩ := hB
    refine ⟨?_, ?_, ?_, ?_, ?_, ?_, ?_, ?_, ?_, ?_, ?_, ?_, ?_⟩
    · rw [u _ (by omega) (by omega) (by omega)]; exact b1
    · rw [endG_36]; omega
    · rw [endG_35]; omega
    · intro i hi
      rw [u _ (by omega) (by omega) (by omega), u _ (by omega) (by omega) (by omega), u _ (by omega) (by omega) (by omega), u _ (by omega) (by omega) (by omega), u _ (by omega) (by omega) (by omega), u _ (by omega) (by omega) (by omega)]; exact b4 i hi
    · intro k hk
      rw [u _ (by omega) (by omega) (by omega), u _ (by omega) (by omega) (by omega)]; exact b5 k hk
    · intro l hl; rw [u _ (by omega) (by omega) (by omega)]; exact b6 l hl
    · intro a ha; rw [u _ (by omega) (by omega) (by omega), u _ (by omega) (by omega) (by omega)]; exact b7 a ha
    · intro r hr; rw [u _ (by omega) (by omega) (by omega)]; exact b8 r hr
    · rw [u _ (by omega) (by omega) (by omega)]; exact b9
    · rw [u _ (by omega) (by omega) (by omega)]; exact b10
    · rw [u _ (by omega) (by omega) (by omega)]; exact b11
    · rw [u _ (by omega) (by omega) (by omega)]; exact b12
    · rw [endG_34]; omega
  · rw [endG_36] at hj; omega
  · obtain ⟨l, hl, h0⟩ := c
    exact ⟨l, hl, by rw [u _ (by omega) (by omega) (by omega)]; exact h0⟩
  · obtain ⟨l, hl, h0⟩ := c
    exact ⟨l, hl, by rw [wt_end G l hl]; exact h0⟩
  · rw [u _ (by omega) (by omega) (by omega)]; exact g i hi
  · rw [u _ (by omega) (by omega) (by omega)]; exact h
theorem pr_end (hI : INV t iv jv) : XM (d + 12) Yt_end [.ref 0] iv jv (Q1 (d + 12) t Ym_end [.ref 118]) := by
  obtain ⟨G, hT, hC, hG, hM, hS⟩ := hI
  have hB := hT.1
  have b34 : G 34 ≤ 1 := hB.2.2.2.2.2.2.2.2.2.2.2.2
  obtain ⟨cf, cp, ca, cb, cw, ck, ci⟩ := cr1 hC
  have f11 := cf.2.2.2.2.2.1
  by_cases p : G 34 = 1
  · have p0 : ¬ G 34 = 0 := by omega
    simp (disch := first | assumption | omega) only [e_t_end, x_t_end_0, x_t_end_1, x_t_end_4, x_t_end_7, x_t_end_10, x_t_end_11, x_t_end_14, x_t_end_17, x_t_end_20, x_t_end_22, f11, qn0, p0, if_false]
    refine sp_o_finish (d := d + 7) isB1 hC hB (fun iv1 jv1 hF hC1 => ?_)
    simp (disch := first | assumption | omega) only [XK_s, x_t_end_0, x_t_end_1, x_t_end_4, x_t_end_7, x_t_end_10, x_t_end_11, x_t_end_14, x_t_end_17, x_t_end_20, x_t_end_22]
    refine Q1_i ?_
    have hG1 := FX_G (FX_1 hF) hG
    rw [sp_m_end (d := d + 9) hG1 hB, if_pos p]
    exact Q2_i (INV_mk hM hS (FX_1 hF) hC1 (FW_9 (fun q k hq => by rw [upj_ne hq, upj_ne hq, upj_ne hq])) (RG_up (RG_up (RG_up hG1 34 0) 36 0) 35 0) (ST_s (ST_end hT)))
  · have p0 : G 34 = 0 := by omega
    simp (disch := first | assumption | omega) only [e_t_end, x_t_end_0, x_t_end_1, x_t_end_4, x_t_end_7, x_t_end_10, x_t_end_11, x_t_end_14, x_t_end_17, x_t_end_20, x_t_end_22, f11, qn0, p0, if_true]
    refine Q1_i ?_
    rw [sp_m_end (d := d + 9) hG hB, if_neg p]
    exact Q2_i (INV_r hT hC hG hM hS)
/-! answered -/
theorem in1 (x : Int32) {n : Nat} (hn : n ≤ 100) : (nI 0 ≤ x ∧ x ≤ nI n - nI 1) ↔ (0 ≤ x.toInt ∧ x.toInt < (n : Int)) := by
  have e : (nI n - nI 1).toInt = (n : Int) - 1 := by
    have : ∀ n, n ≤ 100 → (nI n - nI 1).toInt = (n : Int) - 1 := by decide +kernel
    exact this n hn
  rw [t_ge x (by decide), Int32.le_iff_toInt_le, e]; omega
theorem sp_within1 (x : Int32) {n : Nat} (hn : n ≤ 100) : XM (d + 1) Yt_within [.int x, .int (nI 0), .int (nI n - nI 1)] iv jv Q = Q (some (.int (b01 (0 ≤ x.toInt ∧ x.toInt < (n : Int))))) (mk iv jv) := by
  rw [sp_t_within, b01_congr (in1 x hn)]
theorem pr_answered (hI : INV t iv jv) (x y : Int32) : XM (d + 12) Yt_answered [.ref 0, .int x, .int y] iv jv (Q1 (d + 12) t Ym_answered [.ref 118, .int x, .int y]) := by
  obtain ⟨G, hT, hC, hG, hM, hS⟩ := hI
  have hB := hT.1
  have b36 := hB.2.1
  have b34 : G 34 ≤ 1 := hB.2.2.2.2.2.2.2.2.2.2.2.2
  obtain ⟨cf, cp, ca, cb, cw, ck, ci⟩ := cr1 hC
  have f11 := cf.2.2.2.2.2.1
  have f14 := cf.2.2.2.2.2.2
  by_cases h : i01 y
  · obtain ⟨w, hw, rfl⟩ := nat8 (m := 1) (x := y) h (by decide)
    have fin : ∀ r, (if G 34 = 1 then (if 0 ≤ x.toInt ∧ x.toInt < (G 36 : Int) then nI (G (85 + 2 * x.toInt.toNat + w)) else -12) else -3) = r → Q1 (d + 12) t Ym_answered [.ref 118, .int x, .int (nI w)] (some (.int r)) (mk iv jv) := fun r hr => by
      refine Q1_i ?_
      rw [sp_m_answered (d := d + 9) (by omega) hG hB, hr]
      exact Q2_i (INV_r hT hC hG hM hS)
    by_cases p : G 34 = 1
    · have p0 : ¬ G 34 = 0 := by omega
      by_cases p2 : 0 ≤ x.toInt ∧ x.toInt < (G 36 : Int)
      · obtain ⟨k, hk, rfl⟩ := inR_of (x := x) (m := 7) ⟨p2.1, by omega⟩ (by decide)
        have ek : (nI k).toInt.toNat = k := by rw [nI_toI (by omega)]; rfl
        have hk36 : k < G 36 := by rw [nI_toI (by omega)] at p2; omega
        have hkk := ck k hk36
        obtain ⟨hd1, hd2⟩ := hT.2.1 k hk36
        have b1 := hB.1
        have hd8 : G (85 + 2 * k) < 8 := by omega
        obtain ⟨t0, t1, t2⟩ := sI1 hd8
        have f7 := (ci _ hd1).1.2.2.2.2.2.2.2
        rw [rep_at hT.2.1 hk36] at f7
        rw [if_pos p, if_pos p2, ek] at fin
        by_cases p3 : w = 0
        · have := fin (nI (G (85 + 2 * k))) (by rw [p3, Nat.add_zero])
          simp (disch := first | assumption | omega) only [e_t_answered, x_t_answered_0, x_t_answered_1, x_t_answered_2, x_t_answered_3, x_t_answered_6, x_t_answered_9, x_t_answered_11, x_t_answered_12, x_t_answered_13, x_t_answered_16, x_t_answered_19, x_t_answered_22, x_t_answered_24, x_t_answered_25, x_t_answered_26, x_t_answered_27, x_t_answered_28, x_t_answered_31, x_t_answered_34, x_t_answered_35, x_t_answered_36, x_t_answered_39, x_t_answered_42, x_t_answered_44, x_t_answered_45, x_t_answered_46, x_t_answered_49, x_t_answered_52, x_t_answered_53, x_t_answered_54, x_t_answered_55, x_t_answered_56, x_t_answered_59, x_t_answered_60, x_t_answered_63, x_t_answered_64, x_t_answered_67, x_t_answered_70, x_t_answered_71, x_t_answered_72, x_t_answered_75, sp_withinN, sp_within1 (nI k) (show G 36 ≤ 100 from by omega), XK_s, b01_eq0, hw, Nat.zero_le, and_self, not_true_eq_false, if_false, f11, f14, qn0, p0, eq_true p2, q_in, q_tn, true_and, hkk, eq_true p3, if_true]
          exact this
        · have := fin (nI (G (85 + 2 * k + 1))) (by rw [show w = 1 from by omega])
          simp (disch := first | assumption | omega) only [e_t_answered, x_t_answered_0, x_t_answered_1, x_t_answered_2, x_t_answered_3, x_t_answered_6, x_t_answered_9, x_t_answered_11, x_t_answered_12, x_t_answered_13, x_t_answered_16, x_t_answered_19, x_t_answered_22, x_t_answered_24, x_t_answered_25, x_t_answered_26, x_t_answered_27, x_t_answered_28, x_t_answered_31, x_t_answered_34, x_t_answered_35, x_t_answered_36, x_t_answered_39, x_t_answered_42, x_t_answered_44, x_t_answered_45, x_t_answered_46, x_t_answered_49, x_t_answered_52, x_t_answered_53, x_t_answered_54, x_t_answered_55, x_t_answered_56, x_t_answered_59, x_t_answered_60, x_t_answered_63, x_t_answered_64, x_t_answered_67, x_t_answered_70, x_t_answered_71, x_t_answered_72, x_t_answered_75, sp_withinN, sp_within1 (nI k) (show G 36 ≤ 100 from by omega), XK_s, b01_eq0, hw, Nat.zero_le, and_self, not_true_eq_false, if_false, f11, f14, qn0, p0, eq_true p2, q_in, q_tn, true_and, hkk, eq_false p3, t0, f7]
          exact this
      · have := fin (-12) (by rw [if_pos p, if_neg p2])
        simp (disch := first | assumption | omega) only [e_t_answered, x_t_answered_0, x_t_answered_1, x_t_answered_2, x_t_answered_3, x_t_answered_6, x_t_answered_9, x_t_answered_11, x_t_answered_12, x_t_answered_13, x_t_answered_16, x_t_answered_19, x_t_answered_22, x_t_answered_24, x_t_answered_25, x_t_answered_26, x_t_answered_27, x_t_answered_28, x_t_answered_31, x_t_answered_34, x_t_answered_35, x_t_answered_36, x_t_answered_39, x_t_answered_42, x_t_answered_44, x_t_answered_45, x_t_answered_46, x_t_answered_49, x_t_answered_52, x_t_answered_53, x_t_answered_54, x_t_answered_55, x_t_answered_56, x_t_answered_59, x_t_answered_60, x_t_answered_63, x_t_answered_64, x_t_answered_67, x_t_answered_70, x_t_answered_71, x_t_answered_72, x_t_answered_75, sp_withinN, sp_within1 x (show G 36 ≤ 100 from by omega), XK_s, b01_eq0, hw, Nat.zero_le, and_self, not_true_eq_false, not_false_eq_true, if_false, if_true, f11, f14, qn0, p0, eq_false p2]
        exact this
    · have p0 : G 34 = 0 := by omega
      have := fin (-3) (by rw [if_neg p])
      simp (disch := first | assumption | omega) only [e_t_answered, x_t_answered_0, x_t_answered_1, x_t_answered_2, x_t_answered_3, x_t_answered_6, x_t_answered_9, x_t_answered_11, x_t_answered_12, x_t_answered_13, x_t_answered_16, x_t_answered_19, x_t_answered_22, x_t_answered_24, x_t_answered_25, x_t_answered_26, x_t_answered_27, x_t_answered_28, x_t_answered_31, x_t_answered_34, x_t_answered_35, x_t_answered_36, x_t_answered_39, x_t_answered_42, x_t_answered_44, x_t_answered_45, x_t_answered_46, x_t_answered_49, x_t_answered_52, x_t_answered_53, x_t_answered_54, x_t_answered_55, x_t_answered_56, x_t_answered_59, x_t_answered_60, x_t_answered_63, x_t_answered_64, x_t_answered_67, x_t_answered_70, x_t_answered_71, x_t_answered_72, x_t_answered_75, sp_withinN, XK_s, b01_eq0, hw, Nat.zero_le, and_self, not_true_eq_false, if_false, if_true, f11, qn0, p0]
      exact this
  · have p1 : ¬ (((0 : Nat) : Int) ≤ y.toInt ∧ y.toInt ≤ ((1 : Nat) : Int)) := h
    simp (disch := first | assumption | omega) only [e_t_answered, x_t_answered_0, x_t_answered_1, x_t_answered_2, x_t_answered_3, x_t_answered_6, x_t_answered_9, x_t_answered_11, x_t_answered_12, x_t_answered_13, x_t_answered_16, x_t_answered_19, x_t_answered_22, x_t_answered_24, x_t_answered_25, x_t_answered_26, x_t_answered_27, x_t_answered_28, x_t_answered_31, x_t_answered_34, x_t_answered_35, x_t_answered_36, x_t_answered_39, x_t_answered_42, x_t_answered_44, x_t_answered_45, x_t_answered_46, x_t_answered_49, x_t_answered_52, x_t_answered_53, x_t_answered_54, x_t_answered_55, x_t_answered_56, x_t_answered_59, x_t_answered_60, x_t_answered_63, x_t_answered_64, x_t_answered_67, x_t_answered_70, x_t_answered_71, x_t_answered_72, x_t_answered_75, sp_within, XK_s, b01_eq0, eq_false p1, not_false_eq_true, if_true]
    refine Q1_i ?_
    rw [sp_m_answered_bad (d := d + 9) h]
    exact Q2_i (INV_r hT hC hG hM hS)
end PAIR4
