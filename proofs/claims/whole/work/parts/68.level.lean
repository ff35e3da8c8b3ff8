section LEVEL
variable {d : Nat} {iv : mI} {jv : mJ} {Q : Option Value → mH → Prop} {G : Nat → Nat} {B q n : Nat} {C : Nat → Int32}
theorem aa_s (C : Nat → Int32) (n : Nat) : aa C (n + 1) = (aa C n && decide (0 ≤ (C n).toInt ∧ (C n).toInt ≤ 1)) := rfl
theorem aa_01 : ∀ n, aa C n = true → ∀ i, i < n → C i = nI 0 ∨ C i = nI 1
  | 0, _, i, hi => by omega
  | n + 1, h, i, hi => by
    rw [aa_s, Bool.and_eq_true, decide_eq_true_eq] at h
    by_cases e : i = n
    · subst e
      rw [toI_eq _ (by decide), toI_eq _ (by decide)]
      have := h.2
      omega
    · exact aa_01 n h.1 i (by omega)
theorem aa_f : ∀ m n, aa C n = false → aa C (n + m) = false
  | 0, n, h => h
  | m + 1, n, h => by rw [← Nat.add_assoc, aa_s, aa_f m n h]; rfl
theorem lp_o_understands {B q : Nat} (hb : isB B) (hC : CF B G iv) (hB : IB G) (hq : shp q = (3, 3)) (hq1 : shp (q + 1) = (16, 40)) (hqn : q + 1 ≠ 1001) (h1 : iv q 1 = nI n) (hn : n ≤ 40) (hc : ∀ i, i < n → iv (q + 1) i = C i) : ∀ m i, i + m = n → aa C i = true → XT (d + 1) Yo_understands 15 [.ref B, .ref q, .int (nI i)] [] iv jv Q = Q (some (.int (b01 (aa C n = true)))) (mk iv jv) := by
  intro m
  induction m with
  | zero =>
    intro i hi ha
    obtain rfl : i = n := by omega
    rw [x_o_understands_15, b01_t ha]
    simp (disch := first | assumption | omega) only [x_o_understands_0, x_o_understands_1, x_o_understands_4, x_o_understands_5, x_o_understands_8, x_o_understands_11, x_o_understands_12, x_o_understands_13, x_o_understands_14, x_o_understands_16, x_o_understands_17, x_o_understands_20, x_o_understands_23, x_o_understands_24, x_o_understands_27, x_o_understands_28, x_o_understands_29, x_o_understands_30, x_o_understands_31, x_o_understands_34, x_o_understands_37, x_o_understands_38, x_o_understands_39, x_o_understands_42, x_o_understands_45, x_o_understands_46, hq, true_and, h1, q_le, Nat.le_refl, if_true, z11, or_true]
  | succ m ih =>
    intro i hi ha
    have h4 : ¬ n ≤ i := by omega
    have hci := hc i (by omega)
    have h8 := ih (i + 1) (by omega)
    rw [x_o_understands_15]
    by_cases p : ((0 : Nat) : Int) ≤ (C i).toInt ∧ (C i).toInt ≤ ((1 : Nat) : Int)
    · have h8 := h8 (by rw [aa_s, ha]; simpa using p)
      rw [← h8]
      simp (disch := first | assumption | omega) only [x_o_understands_0, x_o_understands_1, x_o_understands_4, x_o_understands_5, x_o_understands_8, x_o_understands_11, x_o_understands_12, x_o_understands_13, x_o_understands_14, x_o_understands_16, x_o_understands_17, x_o_understands_20, x_o_understands_23, x_o_understands_24, x_o_understands_27, x_o_understands_28, x_o_understands_29, x_o_understands_30, x_o_understands_31, x_o_understands_34, x_o_understands_37, x_o_understands_38, x_o_understands_39, x_o_understands_42, x_o_understands_45, x_o_understands_46, hq, hq1, eq_false hqn, if_false, true_and, true_or, h1, q_le, h4, q_in, q_tn, hci, sp_within, XK_s, b01_eq0, eq_true p, not_true_eq_false, q_add]
    · have hf : aa C (i + 1) = false := by rw [aa_s, ha]; simpa using p
      have hf2 := aa_f m (i + 1) hf
      rw [show i + 1 + m = n from by omega] at hf2
      rw [hf2, b01_f (by decide)]
      simp (disch := first | assumption | omega) only [x_o_understands_0, x_o_understands_1, x_o_understands_4, x_o_understands_5, x_o_understands_8, x_o_understands_11, x_o_understands_12, x_o_understands_13, x_o_understands_14, x_o_understands_16, x_o_understands_17, x_o_understands_20, x_o_understands_23, x_o_understands_24, x_o_understands_27, x_o_understands_28, x_o_understands_29, x_o_understands_30, x_o_understands_31, x_o_understands_34, x_o_understands_37, x_o_understands_38, x_o_understands_39, x_o_understands_42, x_o_understands_45, x_o_understands_46, hq, hq1, eq_false hqn, if_false, true_and, true_or, h1, q_le, h4, q_in, q_tn, hci, sp_within, XK_s, b01_eq0, eq_false p, not_false_eq_true, if_true, z01]
theorem sp_o_understands {B q : Nat} (hb : isB B) (hC : CF B G iv) (hB : IB G) (hq : shp q = (3, 3)) (hq1 : shp (q + 1) = (16, 40)) (hqn : q + 1 ≠ 1001) (h1 : iv q 1 = nI n) (hn : n ≤ 40) (hc : ∀ i, i < n → iv (q + 1) i = C i) : XM (d + 2) Yo_understands [.ref B, .ref q] iv jv Q = Q (some (.int (b01 (shOk G C n = true)))) (mk iv jv) := by
  obtain ⟨c4, c5, c6, c7, c9, c11, c14⟩ := id hC
  obtain ⟨s0, s1, s2, s3, s4, s5, s6, s7, s8, s9, s10, s11⟩ := sB hb
  have b1 := hB.1
  have l := lp_o_understands (d := d) (jv := jv) (Q := Q) (C := C) hb hC hB hq hq1 hqn h1 hn hc n 0 (by omega) rfl
  unfold shOk
  by_cases p : n ≤ G 29
  · rw [decide_eq_true p, Bool.true_and, ← l]
    simp (disch := first | assumption | omega) only [e_o_understands, x_o_understands_0, x_o_understands_1, x_o_understands_4, x_o_understands_5, x_o_understands_8, x_o_understands_11, x_o_understands_12, x_o_understands_13, x_o_understands_14, x_o_understands_16, x_o_understands_17, x_o_understands_20, x_o_understands_23, x_o_understands_24, x_o_understands_27, x_o_understands_28, x_o_understands_29, x_o_understands_30, x_o_understands_31, x_o_understands_34, x_o_understands_37, x_o_understands_38, x_o_understands_39, x_o_understands_42, x_o_understands_45, x_o_understands_46, hq, s0, true_and, h1, c9, q_le, p, if_true]
  · rw [decide_eq_false p, Bool.false_and, b01_f (by decide)]
    simp (disch := first | assumption | omega) only [e_o_understands, x_o_understands_0, x_o_understands_1, x_o_understands_4, x_o_understands_5, x_o_understands_8, x_o_understands_11, x_o_understands_12, x_o_understands_13, x_o_understands_14, x_o_understands_16, x_o_understands_17, x_o_understands_20, x_o_understands_23, x_o_understands_24, x_o_understands_27, x_o_understands_28, x_o_understands_29, x_o_understands_30, x_o_understands_31, x_o_understands_34, x_o_understands_37, x_o_understands_38, x_o_understands_39, x_o_understands_42, x_o_understands_45, x_o_understands_46, hq, s0, true_and, h1, c9, q_le, p, if_false, z01, true_or]
/-! bestLevel -/
theorem lp_o_product {x a y b0 : Int32} {bp : Int64} {l k : Nat} (hb : isB B) (hC : CR B G iv jv) (hB : IB G) (hq : shp q = (3, 3)) (hq1 : shp (q + 1) = (16, 40)) (hqn : q + 1 ≠ 1001) (h1 : iv q 1 = nI n) (hn : n ≤ G 29) (hc : ∀ i, i < n → iv (q + 1) i = C i) (h01 : ∀ i, i < n → C i = nI 0 ∨ C i = nI 1) (hk : x = -1 ∨ (a = nI k ∧ k < 6)) (hl : l < 9) {R : Prop} (hR : ∀ u12 u13, XT (d + 1) Yo_bestLevel 128 [.ref B, .ref q, .int x, .int a, .int y, .int b0, .long bp, mW, .int (nI l), .long (lN (pr G C x k y l n)), mW, .int (nI n), u12, u13] [] iv jv Q = R) : ∀ m i, i + m = n → ∀ u12 u13, XT (d + 1) Yo_bestLevel 24 [.ref B, .ref q, .int x, .int a, .int y, .int b0, .long bp, mW, .int (nI l), .long (lN (pr G C x k y l i)), mW, .int (nI i), u12, u13] [] iv jv Q = R := by
  obtain ⟨⟨c4, c5, c6, c7, c9, c11, c14⟩, cp, ca, cb, cw, ck, cm, ci, ch⟩ := id hC
  obtain ⟨s0, s1, s2, s3, s4, s5, s6, s7, s8, s9, s10, s11⟩ := sB hb
  have hlb := lt_B hb
  have b1 := hB.1
  have e18 : ((18 : Nat) = 18 ∨ (18 : Nat) = 19) = True := by simp
  intro m
  induction m with
  | zero =>
    intro i hi u12 u13
    obtain rfl : i = n := by omega
    rw [x_o_bestLevel_24, ← hR u12 u13]
    simp (disch := first | assumption | omega) only [x_o_bestLevel_26, x_o_bestLevel_27, x_o_bestLevel_30, hq, true_and, h1, q_le, Nat.le_refl, if_true]
  | succ m ih =>
    intro i hi u12 u13
    have h4 : ¬ n ≤ i := by omega
    have h5 : ¬ G 29 ≤ i := by omega
    have hi8 : i < 8 := by omega
    obtain ⟨t0, t1, t2⟩ := sI hb hi8
    obtain ⟨⟨f0, f1, f2, f3, f4, f5, f6, f7⟩, fr, ft⟩ := ci i (by omega)
    have b4 := hB.2.2.2.1 i hi8
    have hci := hc i (by omega)
    have n1 : (B + 12 + 3 * i + 1 = 1001) = False := by apply eq_false; omega
    have h8 := ih (i + 1) (by omega)
    rw [pr_s] at h8
    unfold fac at h8
    have frl := fr l hl
    rw [x_o_bestLevel_24]
    by_cases p1 : nI i = x
    · have hk' : a = nI k ∧ k < 6 := by
        rcases hk with h | h
        · rw [h, nm0' (by omega)] at p1; exact p1.elim
        · exact h
      obtain ⟨ha, hk6⟩ := hk'
      rw [ha] at h8
      have ra := fun (Q : Option Value → mH → Prop) => sp_i_rightAs (d := d) (jv := jv) (Q := Q) (k := k) t0 f2 f3 hk6 (by omega) (by omega) hl
      have hr := rightN_in k (G (37 + 6 * i + 2)) (G (37 + 6 * i + 3)) l
      rw [if_pos p1] at h8
      by_cases p3 : nI i = y
      · rcases h01 i (by omega) with p2 | p2
        · rw [p2] at hci h8
          rw [if_neg (by rw [n01, eq_true p3]; simp)] at h8
          simp (disch := first | assumption | omega) only [x_o_bestLevel_0, x_o_bestLevel_1, x_o_bestLevel_3, x_o_bestLevel_6, x_o_bestLevel_8, x_o_bestLevel_9, x_o_bestLevel_13, x_o_bestLevel_15, x_o_bestLevel_18, x_o_bestLevel_19, x_o_bestLevel_21, x_o_bestLevel_22, x_o_bestLevel_26, x_o_bestLevel_27, x_o_bestLevel_30, x_o_bestLevel_33, x_o_bestLevel_35, x_o_bestLevel_36, x_o_bestLevel_39, x_o_bestLevel_42, x_o_bestLevel_44, x_o_bestLevel_45, x_o_bestLevel_48, x_o_bestLevel_49, x_o_bestLevel_52, x_o_bestLevel_54, x_o_bestLevel_55, x_o_bestLevel_56, x_o_bestLevel_58, x_o_bestLevel_61, x_o_bestLevel_64, x_o_bestLevel_65, x_o_bestLevel_68, x_o_bestLevel_70, x_o_bestLevel_71, x_o_bestLevel_74, x_o_bestLevel_76, x_o_bestLevel_77, x_o_bestLevel_79, x_o_bestLevel_81, x_o_bestLevel_83, x_o_bestLevel_86, x_o_bestLevel_87, x_o_bestLevel_90, x_o_bestLevel_91, x_o_bestLevel_93, x_o_bestLevel_95, x_o_bestLevel_96, x_o_bestLevel_99, x_o_bestLevel_101, x_o_bestLevel_102, x_o_bestLevel_104, x_o_bestLevel_107, x_o_bestLevel_109, x_o_bestLevel_111, x_o_bestLevel_112, x_o_bestLevel_113, x_o_bestLevel_116, x_o_bestLevel_118, x_o_bestLevel_119, x_o_bestLevel_120, x_o_bestLevel_122, x_o_bestLevel_125, x_o_bestLevel_128, x_o_bestLevel_130, x_o_bestLevel_132, x_o_bestLevel_133, x_o_bestLevel_136, x_o_bestLevel_138, x_o_bestLevel_140, x_o_bestLevel_142, x_o_bestLevel_144, x_o_bestLevel_147, x_o_bestLevel_150, x_o_bestLevel_152, hq, hq1, eq_false hqn, true_and, true_or, h1, q_le, h4, h5, if_false, if_true, s0, s5, e18, c9, eq_true p1, ha, q_in, q_tn, rI hb, t0, ra, XK_s, eq_true p3, hci, n01, q_sub, q_i2l, q_lmul, q_add]
          exact h8 _ _
        · rw [p2] at hci h8
          rw [if_pos (by rw [eq_true p3]; simp)] at h8
          simp (disch := first | assumption | omega) only [x_o_bestLevel_0, x_o_bestLevel_1, x_o_bestLevel_3, x_o_bestLevel_6, x_o_bestLevel_8, x_o_bestLevel_9, x_o_bestLevel_13, x_o_bestLevel_15, x_o_bestLevel_18, x_o_bestLevel_19, x_o_bestLevel_21, x_o_bestLevel_22, x_o_bestLevel_26, x_o_bestLevel_27, x_o_bestLevel_30, x_o_bestLevel_33, x_o_bestLevel_35, x_o_bestLevel_36, x_o_bestLevel_39, x_o_bestLevel_42, x_o_bestLevel_44, x_o_bestLevel_45, x_o_bestLevel_48, x_o_bestLevel_49, x_o_bestLevel_52, x_o_bestLevel_54, x_o_bestLevel_55, x_o_bestLevel_56, x_o_bestLevel_58, x_o_bestLevel_61, x_o_bestLevel_64, x_o_bestLevel_65, x_o_bestLevel_68, x_o_bestLevel_70, x_o_bestLevel_71, x_o_bestLevel_74, x_o_bestLevel_76, x_o_bestLevel_77, x_o_bestLevel_79, x_o_bestLevel_81, x_o_bestLevel_83, x_o_bestLevel_86, x_o_bestLevel_87, x_o_bestLevel_90, x_o_bestLevel_91, x_o_bestLevel_93, x_o_bestLevel_95, x_o_bestLevel_96, x_o_bestLevel_99, x_o_bestLevel_101, x_o_bestLevel_102, x_o_bestLevel_104, x_o_bestLevel_107, x_o_bestLevel_109, x_o_bestLevel_111, x_o_bestLevel_112, x_o_bestLevel_113, x_o_bestLevel_116, x_o_bestLevel_118, x_o_bestLevel_119, x_o_bestLevel_120, x_o_bestLevel_122, x_o_bestLevel_125, x_o_bestLevel_128, x_o_bestLevel_130, x_o_bestLevel_132, x_o_bestLevel_133, x_o_bestLevel_136, x_o_bestLevel_138, x_o_bestLevel_140, x_o_bestLevel_142, x_o_bestLevel_144, x_o_bestLevel_147, x_o_bestLevel_150, x_o_bestLevel_152, hq, hq1, eq_false hqn, true_and, true_or, h1, q_le, h4, h5, if_false, if_true, s0, s5, e18, c9, eq_true p1, ha, q_in, q_tn, rI hb, t0, ra, XK_s, eq_true p3, hci, q_sub, q_i2l, q_lmul, q_add]
          exact h8 _ _
      · rcases h01 i (by omega) with p2 | p2
        · rw [p2] at hci h8
          rw [if_pos (by rw [n01, eq_false p3])] at h8
          simp (disch := first | assumption | omega) only [x_o_bestLevel_0, x_o_bestLevel_1, x_o_bestLevel_3, x_o_bestLevel_6, x_o_bestLevel_8, x_o_bestLevel_9, x_o_bestLevel_13, x_o_bestLevel_15, x_o_bestLevel_18, x_o_bestLevel_19, x_o_bestLevel_21, x_o_bestLevel_22, x_o_bestLevel_26, x_o_bestLevel_27, x_o_bestLevel_30, x_o_bestLevel_33, x_o_bestLevel_35, x_o_bestLevel_36, x_o_bestLevel_39, x_o_bestLevel_42, x_o_bestLevel_44, x_o_bestLevel_45, x_o_bestLevel_48, x_o_bestLevel_49, x_o_bestLevel_52, x_o_bestLevel_54, x_o_bestLevel_55, x_o_bestLevel_56, x_o_bestLevel_58, x_o_bestLevel_61, x_o_bestLevel_64, x_o_bestLevel_65, x_o_bestLevel_68, x_o_bestLevel_70, x_o_bestLevel_71, x_o_bestLevel_74, x_o_bestLevel_76, x_o_bestLevel_77, x_o_bestLevel_79, x_o_bestLevel_81, x_o_bestLevel_83, x_o_bestLevel_86, x_o_bestLevel_87, x_o_bestLevel_90, x_o_bestLevel_91, x_o_bestLevel_93, x_o_bestLevel_95, x_o_bestLevel_96, x_o_bestLevel_99, x_o_bestLevel_101, x_o_bestLevel_102, x_o_bestLevel_104, x_o_bestLevel_107, x_o_bestLevel_109, x_o_bestLevel_111, x_o_bestLevel_112, x_o_bestLevel_113, x_o_bestLevel_116, x_o_bestLevel_118, x_o_bestLevel_119, x_o_bestLevel_120, x_o_bestLevel_122, x_o_bestLevel_125, x_o_bestLevel_128, x_o_bestLevel_130, x_o_bestLevel_132, x_o_bestLevel_133, x_o_bestLevel_136, x_o_bestLevel_138, x_o_bestLevel_140, x_o_bestLevel_142, x_o_bestLevel_144, x_o_bestLevel_147, x_o_bestLevel_150, x_o_bestLevel_152, hq, hq1, eq_false hqn, true_and, true_or, h1, q_le, h4, h5, if_false, if_true, s0, s5, e18, c9, eq_true p1, ha, q_in, q_tn, rI hb, t0, ra, XK_s, eq_false p3, hci, q_sub, q_i2l, q_lmul, q_add]
          exact h8 _ _
        · rw [p2] at hci h8
          rw [if_neg (by rw [eq_false p3]; simp)] at h8
          simp (disch := first | assumption | omega) only [x_o_bestLevel_0, x_o_bestLevel_1, x_o_bestLevel_3, x_o_bestLevel_6, x_o_bestLevel_8, x_o_bestLevel_9, x_o_bestLevel_13, x_o_bestLevel_15, x_o_bestLevel_18, x_o_bestLevel_19, x_o_bestLevel_21, x_o_bestLevel_22, x_o_bestLevel_26, x_o_bestLevel_27, x_o_bestLevel_30, x_o_bestLevel_33, x_o_bestLevel_35, x_o_bestLevel_36, x_o_bestLevel_39, x_o_bestLevel_42, x_o_bestLevel_44, x_o_bestLevel_45, x_o_bestLevel_48, x_o_bestLevel_49, x_o_bestLevel_52, x_o_bestLevel_54, x_o_bestLevel_55, x_o_bestLevel_56, x_o_bestLevel_58, x_o_bestLevel_61, x_o_bestLevel_64, x_o_bestLevel_65, x_o_bestLevel_68, x_o_bestLevel_70, x_o_bestLevel_71, x_o_bestLevel_74, x_o_bestLevel_76, x_o_bestLevel_77, x_o_bestLevel_79, x_o_bestLevel_81, x_o_bestLevel_83, x_o_bestLevel_86, x_o_bestLevel_87, x_o_bestLevel_90, x_o_bestLevel_91, x_o_bestLevel_93, x_o_bestLevel_95, x_o_bestLevel_96, x_o_bestLevel_99, x_o_bestLevel_101, x_o_bestLevel_102, x_o_bestLevel_104, x_o_bestLevel_107, x_o_bestLevel_109, x_o_bestLevel_111, x_o_bestLevel_112, x_o_bestLevel_113, x_o_bestLevel_116, x_o_bestLevel_118, x_o_bestLevel_119, x_o_bestLevel_120, x_o_bestLevel_122, x_o_bestLevel_125, x_o_bestLevel_128, x_o_bestLevel_130, x_o_bestLevel_132, x_o_bestLevel_133, x_o_bestLevel_136, x_o_bestLevel_138, x_o_bestLevel_140, x_o_bestLevel_142, x_o_bestLevel_144, x_o_bestLevel_147, x_o_bestLevel_150, x_o_bestLevel_152, hq, hq1, eq_false hqn, true_and, true_or, h1, q_le, h4, h5, if_false, if_true, s0, s5, e18, c9, eq_true p1, ha, q_in, q_tn, rI hb, t0, ra, XK_s, eq_false p3, hci, n10, q_sub, q_i2l, q_lmul, q_add]
          exact h8 _ _
    · have hr := rightN_in (G (37 + 6 * i)) (G (37 + 6 * i + 2)) (G (37 + 6 * i + 3)) l
      rw [if_neg p1] at h8
      by_cases p3 : nI i = y
      · rcases h01 i (by omega) with p2 | p2
        · rw [p2] at hci h8
          rw [if_neg (by rw [n01, eq_true p3]; simp)] at h8
          simp (disch := first | assumption | omega) only [x_o_bestLevel_0, x_o_bestLevel_1, x_o_bestLevel_3, x_o_bestLevel_6, x_o_bestLevel_8, x_o_bestLevel_9, x_o_bestLevel_13, x_o_bestLevel_15, x_o_bestLevel_18, x_o_bestLevel_19, x_o_bestLevel_21, x_o_bestLevel_22, x_o_bestLevel_26, x_o_bestLevel_27, x_o_bestLevel_30, x_o_bestLevel_33, x_o_bestLevel_35, x_o_bestLevel_36, x_o_bestLevel_39, x_o_bestLevel_42, x_o_bestLevel_44, x_o_bestLevel_45, x_o_bestLevel_48, x_o_bestLevel_49, x_o_bestLevel_52, x_o_bestLevel_54, x_o_bestLevel_55, x_o_bestLevel_56, x_o_bestLevel_58, x_o_bestLevel_61, x_o_bestLevel_64, x_o_bestLevel_65, x_o_bestLevel_68, x_o_bestLevel_70, x_o_bestLevel_71, x_o_bestLevel_74, x_o_bestLevel_76, x_o_bestLevel_77, x_o_bestLevel_79, x_o_bestLevel_81, x_o_bestLevel_83, x_o_bestLevel_86, x_o_bestLevel_87, x_o_bestLevel_90, x_o_bestLevel_91, x_o_bestLevel_93, x_o_bestLevel_95, x_o_bestLevel_96, x_o_bestLevel_99, x_o_bestLevel_101, x_o_bestLevel_102, x_o_bestLevel_104, x_o_bestLevel_107, x_o_bestLevel_109, x_o_bestLevel_111, x_o_bestLevel_112, x_o_bestLevel_113, x_o_bestLevel_116, x_o_bestLevel_118, x_o_bestLevel_119, x_o_bestLevel_120, x_o_bestLevel_122, x_o_bestLevel_125, x_o_bestLevel_128, x_o_bestLevel_130, x_o_bestLevel_132, x_o_bestLevel_133, x_o_bestLevel_136, x_o_bestLevel_138, x_o_bestLevel_140, x_o_bestLevel_142, x_o_bestLevel_144, x_o_bestLevel_147, x_o_bestLevel_150, x_o_bestLevel_152, hq, hq1, eq_false hqn, true_and, true_or, h1, q_le, h4, h5, if_false, if_true, s0, s5, e18, c9, eq_false p1, q_in, q_tn, rI hb, t0, t1, n1, frl, eq_true p3, hci, n01, q_sub, q_i2l, q_lmul, q_add]
          exact h8 _ _
        · rw [p2] at hci h8
          rw [if_pos (by rw [eq_true p3]; simp)] at h8
          simp (disch := first | assumption | omega) only [x_o_bestLevel_0, x_o_bestLevel_1, x_o_bestLevel_3, x_o_bestLevel_6, x_o_bestLevel_8, x_o_bestLevel_9, x_o_bestLevel_13, x_o_bestLevel_15, x_o_bestLevel_18, x_o_bestLevel_19, x_o_bestLevel_21, x_o_bestLevel_22, x_o_bestLevel_26, x_o_bestLevel_27, x_o_bestLevel_30, x_o_bestLevel_33, x_o_bestLevel_35, x_o_bestLevel_36, x_o_bestLevel_39, x_o_bestLevel_42, x_o_bestLevel_44, x_o_bestLevel_45, x_o_bestLevel_48, x_o_bestLevel_49, x_o_bestLevel_52, x_o_bestLevel_54, x_o_bestLevel_55, x_o_bestLevel_56, x_o_bestLevel_58, x_o_bestLevel_61, x_o_bestLevel_64, x_o_bestLevel_65, x_o_bestLevel_68, x_o_bestLevel_70, x_o_bestLevel_71, x_o_bestLevel_74, x_o_bestLevel_76, x_o_bestLevel_77, x_o_bestLevel_79, x_o_bestLevel_81, x_o_bestLevel_83, x_o_bestLevel_86, x_o_bestLevel_87, x_o_bestLevel_90, x_o_bestLevel_91, x_o_bestLevel_93, x_o_bestLevel_95, x_o_bestLevel_96, x_o_bestLevel_99, x_o_bestLevel_101, x_o_bestLevel_102, x_o_bestLevel_104, x_o_bestLevel_107, x_o_bestLevel_109, x_o_bestLevel_111, x_o_bestLevel_112, x_o_bestLevel_113, x_o_bestLevel_116, x_o_bestLevel_118, x_o_bestLevel_119, x_o_bestLevel_120, x_o_bestLevel_122, x_o_bestLevel_125, x_o_bestLevel_128, x_o_bestLevel_130, x_o_bestLevel_132, x_o_bestLevel_133, x_o_bestLevel_136, x_o_bestLevel_138, x_o_bestLevel_140, x_o_bestLevel_142, x_o_bestLevel_144, x_o_bestLevel_147, x_o_bestLevel_150, x_o_bestLevel_152, hq, hq1, eq_false hqn, true_and, true_or, h1, q_le, h4, h5, if_false, if_true, s0, s5, e18, c9, eq_false p1, q_in, q_tn, rI hb, t0, t1, n1, frl, eq_true p3, hci, q_sub, q_i2l, q_lmul, q_add]
          exact h8 _ _
      · rcases h01 i (by omega) with p2 | p2
        · rw [p2] at hci h8
          rw [if_pos (by rw [n01, eq_false p3])] at h8
          simp (disch := first | assumption | omega) only [x_o_bestLevel_0, x_o_bestLevel_1, x_o_bestLevel_3, x_o_bestLevel_6, x_o_bestLevel_8, x_o_bestLevel_9, x_o_bestLevel_13, x_o_bestLevel_15, x_o_bestLevel_18, x_o_bestLevel_19, x_o_bestLevel_21, x_o_bestLevel_22, x_o_bestLevel_26, x_o_bestLevel_27, x_o_bestLevel_30, x_o_bestLevel_33, x_o_bestLevel_35, x_o_bestLevel_36, x_o_bestLevel_39, x_o_bestLevel_42, x_o_bestLevel_44, x_o_bestLevel_45, x_o_bestLevel_48, x_o_bestLevel_49, x_o_bestLevel_52, x_o_bestLevel_54, x_o_bestLevel_55, x_o_bestLevel_56, x_o_bestLevel_58, x_o_bestLevel_61, x_o_bestLevel_64, x_o_bestLevel_65, x_o_bestLevel_68, x_o_bestLevel_70, x_o_bestLevel_71, x_o_bestLevel_74, x_o_bestLevel_76, x_o_bestLevel_77, x_o_bestLevel_79, x_o_bestLevel_81, x_o_bestLevel_83, x_o_bestLevel_86, x_o_bestLevel_87, x_o_bestLevel_90, x_o_bestLevel_91, x_o_bestLevel_93, x_o_bestLevel_95, x_o_bestLevel_96, x_o_bestLevel_99, x_o_bestLevel_101, x_o_bestLevel_102, x_o_bestLevel_104, x_o_bestLevel_107, x_o_bestLevel_109, x_o_bestLevel_111, x_o_bestLevel_112, x_o_bestLevel_113, x_o_bestLevel_116, x_o_bestLevel_118, x_o_bestLevel_119, x_o_bestLevel_120, x_o_bestLevel_122, x_o_bestLevel_125, x_o_bestLevel_128, x_o_bestLevel_130, x_o_bestLevel_132, x_o_bestLevel_133, x_o_bestLevel_136, x_o_bestLevel_138, x_o_bestLevel_140, x_o_bestLevel_142, x_o_bestLevel_144, x_o_bestLevel_147, x_o_bestLevel_150, x_o_bestLevel_152, hq, hq1, eq_false hqn, true_and, true_or, h1, q_le, h4, h5, if_false, if_true, s0, s5, e18, c9, eq_false p1, q_in, q_tn, rI hb, t0, t1, n1, frl, eq_false p3, hci, q_sub, q_i2l, q_lmul, q_add]
          exact h8 _ _
        · rw [p2] at hci h8
          rw [if_neg (by rw [eq_false p3]; simp)] at h8
          simp (disch := first | assumption | omega) only [x_o_bestLevel_0, x_o_bestLevel_1, x_o_bestLevel_3, x_o_bestLevel_6, x_o_bestLevel_8, x_o_bestLevel_9, x_o_bestLevel_13, x_o_bestLevel_15, x_o_bestLevel_18, x_o_bestLevel_19, x_o_bestLevel_21, x_o_bestLevel_22, x_o_bestLevel_26, x_o_bestLevel_27, x_o_bestLevel_30, x_o_bestLevel_33, x_o_bestLevel_35, x_o_bestLevel_36, x_o_bestLevel_39, x_o_bestLevel_42, x_o_bestLevel_44, x_o_bestLevel_45, x_o_bestLevel_48, x_o_bestLevel_49, x_o_bestLevel_52, x_o_bestLevel_54, x_o_bestLevel_55, x_o_bestLevel_56, x_o_bestLevel_58, x_o_bestLevel_61, x_o_bestLevel_64, x_o_bestLevel_65, x_o_bestLevel_68, x_o_bestLevel_70, x_o_bestLevel_71, x_o_bestLevel_74, x_o_bestLevel_76, x_o_bestLevel_77, x_o_bestLevel_79, x_o_bestLevel_81, x_o_bestLevel_83, x_o_bestLevel_86, x_o_bestLevel_87, x_o_bestLevel_90, x_o_bestLevel_91, x_o_bestLevel_93, x_o_bestLevel_95, x_o_bestLevel_96, x_o_bestLevel_99, x_o_bestLevel_101, x_o_bestLevel_102, x_o_bestLevel_104, x_o_bestLevel_107, x_o_bestLevel_109, x_o_bestLevel_111, x_o_bestLevel_112, x_o_bestLevel_113, x_o_bestLevel_116, x_o_bestLevel_118, x_o_bestLevel_119, x_o_bestLevel_120, x_o_bestLevel_122, x_o_bestLevel_125, x_o_bestLevel_128, x_o_bestLevel_130, x_o_bestLevel_132, x_o_bestLevel_133, x_o_bestLevel_136, x_o_bestLevel_138, x_o_bestLevel_140, x_o_bestLevel_142, x_o_bestLevel_144, x_o_bestLevel_147, x_o_bestLevel_150, x_o_bestLevel_152, hq, hq1, eq_false hqn, true_and, true_or, h1, q_le, h4, h5, if_false, if_true, s0, s5, e18, c9, eq_false p1, q_in, q_tn, rI hb, t0, t1, n1, frl, eq_false p3, hci, n10, q_sub, q_i2l, q_lmul, q_add]
          exact h8 _ _
theorem lp_o_bestLevel {x a y : Int32} {k : Nat} (hb : isB B) (hC : CR B G iv jv) (hB : IB G) (hq : shp q = (3, 3)) (hq1 : shp (q + 1) = (16, 40)) (hqn : q + 1 ≠ 1001) (h1 : iv q 1 = nI n) (hn : n ≤ G 29) (hc : ∀ i, i < n → iv (q + 1) i = C i) (h01 : ∀ i, i < n → C i = nI 0 ∨ C i = nI 1) (hk : x = -1 ∨ (a = nI k ∧ k < 6)) : ∀ m l, l + m = 9 → 1 ≤ l → ∀ u9 u10 u11 u12 u13, XT (d + 1) Yo_bestLevel 11 [.ref B, .ref q, .int x, .int a, .int y, .int (nI (mdF (fun l => pr G C x k y l n) (l - 1))), .long (lN (pr G C x k y (mdF (fun l => pr G C x k y l n) (l - 1)) n)), mW, .int (nI l), u9, u10, u11, u12, u13] [] iv jv Q = Q (some (.int (nI (bst G C x k y n)))) (mk iv jv) := by
  have b1 := hB.1
  intro m
  induction m with
  | zero =>
    intro l hl h1' u9 u10 u11 u12 u13
    obtain rfl : l = 9 := by omega
    rw [x_o_bestLevel_11]
    simp (disch := first | assumption | omega) only [x_o_bestLevel_0, x_o_bestLevel_1, x_o_bestLevel_3, x_o_bestLevel_6, x_o_bestLevel_8, x_o_bestLevel_9, x_o_bestLevel_13, x_o_bestLevel_15, x_o_bestLevel_18, x_o_bestLevel_19, x_o_bestLevel_21, x_o_bestLevel_22, x_o_bestLevel_26, x_o_bestLevel_27, x_o_bestLevel_30, x_o_bestLevel_33, x_o_bestLevel_35, x_o_bestLevel_36, x_o_bestLevel_39, x_o_bestLevel_42, x_o_bestLevel_44, x_o_bestLevel_45, x_o_bestLevel_48, x_o_bestLevel_49, x_o_bestLevel_52, x_o_bestLevel_54, x_o_bestLevel_55, x_o_bestLevel_56, x_o_bestLevel_58, x_o_bestLevel_61, x_o_bestLevel_64, x_o_bestLevel_65, x_o_bestLevel_68, x_o_bestLevel_70, x_o_bestLevel_71, x_o_bestLevel_74, x_o_bestLevel_76, x_o_bestLevel_77, x_o_bestLevel_79, x_o_bestLevel_81, x_o_bestLevel_83, x_o_bestLevel_86, x_o_bestLevel_87, x_o_bestLevel_90, x_o_bestLevel_91, x_o_bestLevel_93, x_o_bestLevel_95, x_o_bestLevel_96, x_o_bestLevel_99, x_o_bestLevel_101, x_o_bestLevel_102, x_o_bestLevel_104, x_o_bestLevel_107, x_o_bestLevel_109, x_o_bestLevel_111, x_o_bestLevel_112, x_o_bestLevel_113, x_o_bestLevel_116, x_o_bestLevel_118, x_o_bestLevel_119, x_o_bestLevel_120, x_o_bestLevel_122, x_o_bestLevel_125, x_o_bestLevel_128, x_o_bestLevel_130, x_o_bestLevel_132, x_o_bestLevel_133, x_o_bestLevel_136, x_o_bestLevel_138, x_o_bestLevel_140, x_o_bestLevel_142, x_o_bestLevel_144, x_o_bestLevel_147, x_o_bestLevel_150, x_o_bestLevel_152, q_le, Nat.le_refl, if_true]
    rfl
  | succ m ih =>
    intro l hl hl1 u9 u10 u11 u12 u13
    have h4 : ¬ 9 ≤ l := by omega
    have hm := mdF_le (fun l => pr G C x k y l n) (l - 1)
    have h8 := ih (l + 1) (by omega) (by omega)
    have a1 := pr_lt G C x k y l (n := n) (by omega)
    have a2 := pr_lt G C x k y (mdF (fun l => pr G C x k y l n) (l - 1)) (n := n) (by omega)
    have e1 : l + 1 - 1 = (l - 1) + 1 := by omega
    have e2 : l - 1 + 1 = l := by omega
    rw [e1] at h8
    have e3 : mdF (fun l => pr G C x k y l n) (l - 1 + 1) = if pr G C x k y (mdF (fun l => pr G C x k y l n) (l - 1)) n < pr G C x k y l n then l else mdF (fun l => pr G C x k y l n) (l - 1) := by
      show (if (fun l => pr G C x k y l n) (mdF (fun l => pr G C x k y l n) (l - 1)) < (fun l => pr G C x k y l n) (l - 1 + 1) then l - 1 + 1 else _) = _
      rw [e2]
    rw [e3] at h8
    rw [x_o_bestLevel_11]
    simp (disch := first | assumption | omega) only [x_o_bestLevel_13, x_o_bestLevel_15, x_o_bestLevel_18, x_o_bestLevel_19, x_o_bestLevel_21, x_o_bestLevel_22, q_le, h4, if_false]
    refine lp_o_product (d := d) (k := k) hb hC hB hq hq1 hqn h1 hn hc h01 hk (by omega) (fun u12 u13 => ?_) n 0 (by omega) _ _
    by_cases h : pr G C x k y (mdF (fun l => pr G C x k y l n) (l - 1)) n < pr G C x k y l n
    · have h' : ¬ pr G C x k y l n ≤ pr G C x k y (mdF (fun l => pr G C x k y l n) (l - 1)) n := by omega
      rw [if_pos h] at h8
      simp (disch := first | assumption | omega) only [x_o_bestLevel_0, x_o_bestLevel_1, x_o_bestLevel_3, x_o_bestLevel_6, x_o_bestLevel_8, x_o_bestLevel_9, x_o_bestLevel_13, x_o_bestLevel_15, x_o_bestLevel_18, x_o_bestLevel_19, x_o_bestLevel_21, x_o_bestLevel_22, x_o_bestLevel_26, x_o_bestLevel_27, x_o_bestLevel_30, x_o_bestLevel_33, x_o_bestLevel_35, x_o_bestLevel_36, x_o_bestLevel_39, x_o_bestLevel_42, x_o_bestLevel_44, x_o_bestLevel_45, x_o_bestLevel_48, x_o_bestLevel_49, x_o_bestLevel_52, x_o_bestLevel_54, x_o_bestLevel_55, x_o_bestLevel_56, x_o_bestLevel_58, x_o_bestLevel_61, x_o_bestLevel_64, x_o_bestLevel_65, x_o_bestLevel_68, x_o_bestLevel_70, x_o_bestLevel_71, x_o_bestLevel_74, x_o_bestLevel_76, x_o_bestLevel_77, x_o_bestLevel_79, x_o_bestLevel_81, x_o_bestLevel_83, x_o_bestLevel_86, x_o_bestLevel_87, x_o_bestLevel_90, x_o_bestLevel_91, x_o_bestLevel_93, x_o_bestLevel_95, x_o_bestLevel_96, x_o_bestLevel_99, x_o_bestLevel_101, x_o_bestLevel_102, x_o_bestLevel_104, x_o_bestLevel_107, x_o_bestLevel_109, x_o_bestLevel_111, x_o_bestLevel_112, x_o_bestLevel_113, x_o_bestLevel_116, x_o_bestLevel_118, x_o_bestLevel_119, x_o_bestLevel_120, x_o_bestLevel_122, x_o_bestLevel_125, x_o_bestLevel_128, x_o_bestLevel_130, x_o_bestLevel_132, x_o_bestLevel_133, x_o_bestLevel_136, x_o_bestLevel_138, x_o_bestLevel_140, x_o_bestLevel_142, x_o_bestLevel_144, x_o_bestLevel_147, x_o_bestLevel_150, x_o_bestLevel_152, c_le, q_lle, h', if_false, q_add]
      exact h8 _ _ _ _ _
    · have h' : pr G C x k y l n ≤ pr G C x k y (mdF (fun l => pr G C x k y l n) (l - 1)) n := by omega
      rw [if_neg h] at h8
      simp (disch := first | assumption | omega) only [x_o_bestLevel_0, x_o_bestLevel_1, x_o_bestLevel_3, x_o_bestLevel_6, x_o_bestLevel_8, x_o_bestLevel_9, x_o_bestLevel_13, x_o_bestLevel_15, x_o_bestLevel_18, x_o_bestLevel_19, x_o_bestLevel_21, x_o_bestLevel_22, x_o_bestLevel_26, x_o_bestLevel_27, x_o_bestLevel_30, x_o_bestLevel_33, x_o_bestLevel_35, x_o_bestLevel_36, x_o_bestLevel_39, x_o_bestLevel_42, x_o_bestLevel_44, x_o_bestLevel_45, x_o_bestLevel_48, x_o_bestLevel_49, x_o_bestLevel_52, x_o_bestLevel_54, x_o_bestLevel_55, x_o_bestLevel_56, x_o_bestLevel_58, x_o_bestLevel_61, x_o_bestLevel_64, x_o_bestLevel_65, x_o_bestLevel_68, x_o_bestLevel_70, x_o_bestLevel_71, x_o_bestLevel_74, x_o_bestLevel_76, x_o_bestLevel_77, x_o_bestLevel_79, x_o_bestLevel_81, x_o_bestLevel_83, x_o_bestLevel_86, x_o_bestLevel_87, x_o_bestLevel_90, x_o_bestLevel_91, x_o_bestLevel_93, x_o_bestLevel_95, x_o_bestLevel_96, x_o_bestLevel_99, x_o_bestLevel_101, x_o_bestLevel_102, x_o_bestLevel_104, x_o_bestLevel_107, x_o_bestLevel_109, x_o_bestLevel_111, x_o_bestLevel_112, x_o_bestLevel_113, x_o_bestLevel_116, x_o_bestLevel_118, x_o_bestLevel_119, x_o_bestLevel_120, x_o_bestLevel_122, x_o_bestLevel_125, x_o_bestLevel_128, x_o_bestLevel_130, x_o_bestLevel_132, x_o_bestLevel_133, x_o_bestLevel_136, x_o_bestLevel_138, x_o_bestLevel_140, x_o_bestLevel_142, x_o_bestLevel_144, x_o_bestLevel_147, x_o_bestLevel_150, x_o_bestLevel_152, c_le, q_lle, h', if_true, q_add]
      exact h8 _ _ _ _ _
theorem sp_o_bestLevel {x a y : Int32} {k : Nat} (hb : isB B) (hC : CR B G iv jv) (hB : IB G) (hq : shp q = (3, 3)) (hq1 : shp (q + 1) = (16, 40)) (hqn : q + 1 ≠ 1001) (h1 : iv q 1 = nI n) (hn : n ≤ G 29) (hc : ∀ i, i < n → iv (q + 1) i = C i) (h01 : ∀ i, i < n → C i = nI 0 ∨ C i = nI 1) (hk : x = -1 ∨ (a = nI k ∧ k < 6)) : XM (d + 2) Yo_bestLevel [.ref B, .ref q, .int x, .int a, .int y] iv jv Q = Q (some (.int (nI (bst G C x k y n)))) (mk iv jv) := by
  have b1 := hB.1
  have a1 := pr_lt G C x k y 0 (n := n) (by omega)
  have h9 : ¬ 9 ≤ 0 := by decide
  have hm1 : ¬ lN (pr G C x k y 0 n) ≤ -1 := by
    rw [Int64.le_iff_toInt_le, lN_toI (by omega)]
    have : (-1 : Int64).toInt = -1 := by decide
    omega
  simp (disch := first | assumption | omega) only [e_o_bestLevel, x_o_bestLevel_0, x_o_bestLevel_1, x_o_bestLevel_3, x_o_bestLevel_6, x_o_bestLevel_8, x_o_bestLevel_9, x_o_bestLevel_13, x_o_bestLevel_15, x_o_bestLevel_18, x_o_bestLevel_19, x_o_bestLevel_21, x_o_bestLevel_22, x_o_bestLevel_26, x_o_bestLevel_27, x_o_bestLevel_30, x_o_bestLevel_33, x_o_bestLevel_35, x_o_bestLevel_36, x_o_bestLevel_39, x_o_bestLevel_42, x_o_bestLevel_44, x_o_bestLevel_45, x_o_bestLevel_48, x_o_bestLevel_49, x_o_bestLevel_52, x_o_bestLevel_54, x_o_bestLevel_55, x_o_bestLevel_56, x_o_bestLevel_58, x_o_bestLevel_61, x_o_bestLevel_64, x_o_bestLevel_65, x_o_bestLevel_68, x_o_bestLevel_70, x_o_bestLevel_71, x_o_bestLevel_74, x_o_bestLevel_76, x_o_bestLevel_77, x_o_bestLevel_79, x_o_bestLevel_81, x_o_bestLevel_83, x_o_bestLevel_86, x_o_bestLevel_87, x_o_bestLevel_90, x_o_bestLevel_91, x_o_bestLevel_93, x_o_bestLevel_95, x_o_bestLevel_96, x_o_bestLevel_99, x_o_bestLevel_101, x_o_bestLevel_102, x_o_bestLevel_104, x_o_bestLevel_107, x_o_bestLevel_109, x_o_bestLevel_111, x_o_bestLevel_112, x_o_bestLevel_113, x_o_bestLevel_116, x_o_bestLevel_118, x_o_bestLevel_119, x_o_bestLevel_120, x_o_bestLevel_122, x_o_bestLevel_125, x_o_bestLevel_128, x_o_bestLevel_130, x_o_bestLevel_132, x_o_bestLevel_133, x_o_bestLevel_136, x_o_bestLevel_138, x_o_bestLevel_140, x_o_bestLevel_142, x_o_bestLevel_144, x_o_bestLevel_147, x_o_bestLevel_150, x_o_bestLevel_152]
  rw [x_o_bestLevel_11]
  simp (disch := first | assumption | omega) only [x_o_bestLevel_13, x_o_bestLevel_15, x_o_bestLevel_18, x_o_bestLevel_19, x_o_bestLevel_21, x_o_bestLevel_22, q_le, h9, if_false]
  refine lp_o_product (d := d) (k := k) hb hC hB hq hq1 hqn h1 hn hc h01 hk (by omega) (fun u12 u13 => ?_) n 0 (by omega) _ _
  have h8 := lp_o_bestLevel (d := d) (Q := Q) (y := y) (k := k) hb hC hB hq hq1 hqn h1 hn hc h01 hk 8 1 (by omega) (by omega)
  simp (disch := first | assumption | omega) only [x_o_bestLevel_0, x_o_bestLevel_1, x_o_bestLevel_3, x_o_bestLevel_6, x_o_bestLevel_8, x_o_bestLevel_9, x_o_bestLevel_13, x_o_bestLevel_15, x_o_bestLevel_18, x_o_bestLevel_19, x_o_bestLevel_21, x_o_bestLevel_22, x_o_bestLevel_26, x_o_bestLevel_27, x_o_bestLevel_30, x_o_bestLevel_33, x_o_bestLevel_35, x_o_bestLevel_36, x_o_bestLevel_39, x_o_bestLevel_42, x_o_bestLevel_44, x_o_bestLevel_45, x_o_bestLevel_48, x_o_bestLevel_49, x_o_bestLevel_52, x_o_bestLevel_54, x_o_bestLevel_55, x_o_bestLevel_56, x_o_bestLevel_58, x_o_bestLevel_61, x_o_bestLevel_64, x_o_bestLevel_65, x_o_bestLevel_68, x_o_bestLevel_70, x_o_bestLevel_71, x_o_bestLevel_74, x_o_bestLevel_76, x_o_bestLevel_77, x_o_bestLevel_79, x_o_bestLevel_81, x_o_bestLevel_83, x_o_bestLevel_86, x_o_bestLevel_87, x_o_bestLevel_90, x_o_bestLevel_91, x_o_bestLevel_93, x_o_bestLevel_95, x_o_bestLevel_96, x_o_bestLevel_99, x_o_bestLevel_101, x_o_bestLevel_102, x_o_bestLevel_104, x_o_bestLevel_107, x_o_bestLevel_109, x_o_bestLevel_111, x_o_bestLevel_112, x_o_bestLevel_113, x_o_bestLevel_116, x_o_bestLevel_118, x_o_bestLevel_119, x_o_bestLevel_120, x_o_bestLevel_122, x_o_bestLevel_125, x_o_bestLevel_128, x_o_bestLevel_130, x_o_bestLevel_132, x_o_bestLevel_133, x_o_bestLevel_136, x_o_bestLevel_138, x_o_bestLevel_140, x_o_bestLevel_142, x_o_bestLevel_144, x_o_bestLevel_147, x_o_bestLevel_150, x_o_bestLevel_152, c_le, hm1, if_false, q_add]
  exact h8 _ _ _ _ _
/-! kindsFor, decidingItems -/
theorem lp_o_kinds {i lev : Nat} (hb : isB B) (hC : CR B G iv jv) (hB : IB G) (hi : i < 8) (hlev : lev ≤ 8) (hq : shp q = (3, 3)) (hq1 : shp (q + 1) = (16, 40)) (hqn : q + 1 ≠ 1001) (h1 : iv q 1 = nI n) (hn : n ≤ G 29) (hc : ∀ i, i < n → iv (q + 1) i = C i) (h01 : ∀ i, i < n → C i = nI 0 ∨ C i = nI 1) : ∀ m k, k + m = 6 → XT (d + 2) Yo_kindsFor 6 [.ref B, .ref q, .int (nI i), .int (nI lev), .int (nI (kn G C i lev n k)), .int (nI k)] [] iv jv Q = Q (some (.int (nI (kn G C i lev n 6)))) (mk iv jv) := by
  obtain ⟨s0, s1, s2, s3, s4, s5, s6, s7, s8, s9, s10, s11⟩ := sB hb
  intro m
  induction m with
  | zero =>
    intro k hk
    obtain rfl : k = 6 := by omega
    rw [x_o_kindsFor_6]
    simp (disch := first | assumption | omega) only [x_o_kindsFor_0, x_o_kindsFor_1, x_o_kindsFor_3, x_o_kindsFor_4, x_o_kindsFor_8, x_o_kindsFor_10, x_o_kindsFor_13, x_o_kindsFor_14, x_o_kindsFor_15, x_o_kindsFor_16, x_o_kindsFor_18, x_o_kindsFor_19, x_o_kindsFor_22, x_o_kindsFor_23, x_o_kindsFor_26, x_o_kindsFor_28, x_o_kindsFor_29, x_o_kindsFor_31, x_o_kindsFor_32, x_o_kindsFor_33, x_o_kindsFor_35, x_o_kindsFor_38, x_o_kindsFor_41, x_o_kindsFor_43, q_le, Nat.le_refl, if_true]
  | succ m ih =>
    intro k hk
    have h4 : ¬ 6 ≤ k := by omega
    have hle := bst_le G C (nI i) k (-1) n
    have tl := kn_lt G C i lev n k (by omega)
    have tp := pow_le (k := k) (by omega)
    have hor := bit_or (kn G C i lev n k) (by omega) k (by omega)
    have hbl := fun (Q : Option Value → mH → Prop) => sp_o_bestLevel (d := d) (Q := Q) (x := nI i) (a := nI k) (y := -1) (k := k) hb hC hB hq hq1 hqn h1 hn hc h01 (Or.inr ⟨rfl, by omega⟩)
    have h8 := ih (k + 1) (by omega)
    rw [kn_s] at h8
    rw [x_o_kindsFor_6]
    by_cases h : bst G C (nI i) k (-1) n = lev
    · rw [if_pos h] at h8
      simp (disch := first | assumption | omega) only [x_o_kindsFor_0, x_o_kindsFor_1, x_o_kindsFor_3, x_o_kindsFor_4, x_o_kindsFor_8, x_o_kindsFor_10, x_o_kindsFor_13, x_o_kindsFor_14, x_o_kindsFor_15, x_o_kindsFor_16, x_o_kindsFor_18, x_o_kindsFor_19, x_o_kindsFor_22, x_o_kindsFor_23, x_o_kindsFor_26, x_o_kindsFor_28, x_o_kindsFor_29, x_o_kindsFor_31, x_o_kindsFor_32, x_o_kindsFor_33, x_o_kindsFor_35, x_o_kindsFor_38, x_o_kindsFor_41, x_o_kindsFor_43, q_le, h4, if_false, s0, true_and, hbl, XK_s, q_eq, eq_true h, if_true, hor, q_add]
      exact h8
    · rw [if_neg h] at h8
      simp (disch := first | assumption | omega) only [x_o_kindsFor_0, x_o_kindsFor_1, x_o_kindsFor_3, x_o_kindsFor_4, x_o_kindsFor_8, x_o_kindsFor_10, x_o_kindsFor_13, x_o_kindsFor_14, x_o_kindsFor_15, x_o_kindsFor_16, x_o_kindsFor_18, x_o_kindsFor_19, x_o_kindsFor_22, x_o_kindsFor_23, x_o_kindsFor_26, x_o_kindsFor_28, x_o_kindsFor_29, x_o_kindsFor_31, x_o_kindsFor_32, x_o_kindsFor_33, x_o_kindsFor_35, x_o_kindsFor_38, x_o_kindsFor_41, x_o_kindsFor_43, q_le, h4, if_false, s0, true_and, hbl, XK_s, q_eq, eq_false h, q_add]
      exact h8
theorem sp_o_kindsFor {i lev : Nat} (hb : isB B) (hC : CR B G iv jv) (hB : IB G) (hi : i < 8) (hlev : lev ≤ 8) (hq : shp q = (3, 3)) (hq1 : shp (q + 1) = (16, 40)) (hqn : q + 1 ≠ 1001) (h1 : iv q 1 = nI n) (hn : n ≤ G 29) (hc : ∀ i, i < n → iv (q + 1) i = C i) (h01 : ∀ i, i < n → C i = nI 0 ∨ C i = nI 1) : XM (d + 3) Yo_kindsFor [.ref B, .ref q, .int (nI i), .int (nI lev)] iv jv Q = Q (some (.int (nI (kn G C i lev n 6)))) (mk iv jv) := by
  simp (disch := first | assumption | omega) only [e_o_kindsFor, x_o_kindsFor_0, x_o_kindsFor_1, x_o_kindsFor_3, x_o_kindsFor_4, x_o_kindsFor_8, x_o_kindsFor_10, x_o_kindsFor_13, x_o_kindsFor_14, x_o_kindsFor_15, x_o_kindsFor_16, x_o_kindsFor_18, x_o_kindsFor_19, x_o_kindsFor_22, x_o_kindsFor_23, x_o_kindsFor_26, x_o_kindsFor_28, x_o_kindsFor_29, x_o_kindsFor_31, x_o_kindsFor_32, x_o_kindsFor_33, x_o_kindsFor_35, x_o_kindsFor_38, x_o_kindsFor_41, x_o_kindsFor_43]
  exact lp_o_kinds hb hC hB hi hlev hq hq1 hqn h1 hn hc h01 6 0 (by omega)
theorem lp_o_dec {b : Nat} (hb8 : b ≤ 8) (hb : isB B) (hC : CR B G iv jv) (hB : IB G) (hq : shp q = (3, 3)) (hq1 : shp (q + 1) = (16, 40)) (hqn : q + 1 ≠ 1001) (h1 : iv q 1 = nI n) (hn : n ≤ G 29) (hc : ∀ i, i < n → iv (q + 1) i = C i) (h01 : ∀ i, i < n → C i = nI 0 ∨ C i = nI 1) : ∀ m i, i + m = n → XT (d + 2) Yo_decidingItems 14 [.ref B, .ref q, .int (nI b), .int (nI (tu G C b n i)), .int (nI i)] [] iv jv Q = Q (some (.int (nI (tu G C b n n)))) (mk iv jv) := by
  obtain ⟨s0, s1, s2, s3, s4, s5, s6, s7, s8, s9, s10, s11⟩ := sB hb
  have b1 := hB.1
  intro m
  induction m with
  | zero =>
    intro i hi
    obtain rfl : i = n := by omega
    rw [x_o_decidingItems_14]
    simp (disch := first | assumption | omega) only [x_o_decidingItems_0, x_o_decidingItems_1, x_o_decidingItems_2, x_o_decidingItems_3, x_o_decidingItems_4, x_o_decidingItems_5, x_o_decidingItems_8, x_o_decidingItems_9, x_o_decidingItems_10, x_o_decidingItems_11, x_o_decidingItems_12, x_o_decidingItems_16, x_o_decidingItems_17, x_o_decidingItems_20, x_o_decidingItems_23, x_o_decidingItems_24, x_o_decidingItems_25, x_o_decidingItems_26, x_o_decidingItems_27, x_o_decidingItems_29, x_o_decidingItems_32, x_o_decidingItems_33, x_o_decidingItems_36, x_o_decidingItems_37, x_o_decidingItems_38, x_o_decidingItems_40, x_o_decidingItems_41, x_o_decidingItems_42, x_o_decidingItems_43, x_o_decidingItems_46, x_o_decidingItems_49, x_o_decidingItems_50, hq, true_and, h1, q_le, Nat.le_refl, if_true]
  | succ m ih =>
    intro i hi
    have h4 : ¬ n ≤ i := by omega
    have hle := bst_le G C (-1) 0 (nI i) n
    have tl := tu_lt G C b n i (by omega)
    have tp := pow_le (k := i) (by omega)
    have hor := bit_or (tu G C b n i) (by omega) i (by omega)
    have hbl := fun (Q : Option Value → mH → Prop) => sp_o_bestLevel (d := d) (Q := Q) (x := -1) (a := -1) (y := nI i) (k := 0) hb hC hB hq hq1 hqn h1 hn hc h01 (Or.inl rfl)
    have h8 := ih (i + 1) (by omega)
    rw [tu_s] at h8
    rw [x_o_decidingItems_14]
    by_cases h : bst G C (-1) 0 (nI i) n = b
    · rw [if_neg (by simp [h])] at h8
      simp (disch := first | assumption | omega) only [x_o_decidingItems_0, x_o_decidingItems_1, x_o_decidingItems_2, x_o_decidingItems_3, x_o_decidingItems_4, x_o_decidingItems_5, x_o_decidingItems_8, x_o_decidingItems_9, x_o_decidingItems_10, x_o_decidingItems_11, x_o_decidingItems_12, x_o_decidingItems_16, x_o_decidingItems_17, x_o_decidingItems_20, x_o_decidingItems_23, x_o_decidingItems_24, x_o_decidingItems_25, x_o_decidingItems_26, x_o_decidingItems_27, x_o_decidingItems_29, x_o_decidingItems_32, x_o_decidingItems_33, x_o_decidingItems_36, x_o_decidingItems_37, x_o_decidingItems_38, x_o_decidingItems_40, x_o_decidingItems_41, x_o_decidingItems_42, x_o_decidingItems_43, x_o_decidingItems_46, x_o_decidingItems_49, x_o_decidingItems_50, hq, true_and, h1, q_le, h4, if_false, s0, hbl, XK_s, q_eq, eq_true h, if_true, q_add]
      exact h8
    · rw [if_pos h] at h8
      simp (disch := first | assumption | omega) only [x_o_decidingItems_0, x_o_decidingItems_1, x_o_decidingItems_2, x_o_decidingItems_3, x_o_decidingItems_4, x_o_decidingItems_5, x_o_decidingItems_8, x_o_decidingItems_9, x_o_decidingItems_10, x_o_decidingItems_11, x_o_decidingItems_12, x_o_decidingItems_16, x_o_decidingItems_17, x_o_decidingItems_20, x_o_decidingItems_23, x_o_decidingItems_24, x_o_decidingItems_25, x_o_decidingItems_26, x_o_decidingItems_27, x_o_decidingItems_29, x_o_decidingItems_32, x_o_decidingItems_33, x_o_decidingItems_36, x_o_decidingItems_37, x_o_decidingItems_38, x_o_decidingItems_40, x_o_decidingItems_41, x_o_decidingItems_42, x_o_decidingItems_43, x_o_decidingItems_46, x_o_decidingItems_49, x_o_decidingItems_50, hq, true_and, h1, q_le, h4, if_false, s0, hbl, XK_s, q_eq, eq_false h, hor, q_add]
      exact h8
theorem sp_o_decidingItems (hb : isB B) (hC : CR B G iv jv) (hB : IB G) (hq : shp q = (3, 3)) (hq1 : shp (q + 1) = (16, 40)) (hqn : q + 1 ≠ 1001) (h1 : iv q 1 = nI n) (hn : n ≤ G 29) (hc : ∀ i, i < n → iv (q + 1) i = C i) (h01 : ∀ i, i < n → C i = nI 0 ∨ C i = nI 1) : XM (d + 3) Yo_decidingItems [.ref B, .ref q] iv jv Q = Q (some (.int (nI (tu G C (bst G C (-1) 0 (-1) n) n n)))) (mk iv jv) := by
  obtain ⟨s0, s1, s2, s3, s4, s5, s6, s7, s8, s9, s10, s11⟩ := sB hb
  have hbl := fun (Q : Option Value → mH → Prop) => sp_o_bestLevel (d := d) (Q := Q) (x := -1) (a := -1) (y := -1) (k := 0) hb hC hB hq hq1 hqn h1 hn hc h01 (Or.inl rfl)
  have hle := bst_le G C (-1) 0 (-1) n
  simp (disch := first | assumption | omega) only [e_o_decidingItems, x_o_decidingItems_0, x_o_decidingItems_1, x_o_decidingItems_2, x_o_decidingItems_3, x_o_decidingItems_4, x_o_decidingItems_5, x_o_decidingItems_8, x_o_decidingItems_9, x_o_decidingItems_10, x_o_decidingItems_11, x_o_decidingItems_12, x_o_decidingItems_16, x_o_decidingItems_17, x_o_decidingItems_20, x_o_decidingItems_23, x_o_decidingItems_24, x_o_decidingItems_25, x_o_decidingItems_26, x_o_decidingItems_27, x_o_decidingItems_29, x_o_decidingItems_32, x_o_decidingItems_33, x_o_decidingItems_36, x_o_decidingItems_37, x_o_decidingItems_38, x_o_decidingItems_40, x_o_decidingItems_41, x_o_decidingItems_42, x_o_decidingItems_43, x_o_decidingItems_46, x_o_decidingItems_49, x_o_decidingItems_50, s0, true_and, hbl, XK_s]
  exact lp_o_dec hle hb hC hB hq hq1 hqn h1 hn hc h01 n 0 (by omega)
end LEVEL
