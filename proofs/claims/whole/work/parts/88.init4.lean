section INIT4
variable {d n nm : Nat} {hp : mH} {Q : Option Value → mH → Prop} {q B : Nat}
theorem s110 {i : Nat} (h : i < 4) : shp (110 + 2 * i) = (3, 3) ∧ shp (110 + 2 * i + 1) = (16, 40) := shH h
theorem lt_1 (h8 : hp 0 4 = .ref 109) (hQ : ∀ hp', (∀ a k, a < 109 → hp' a k = hp a k) → (∀ j, j < 4 → hp' 109 j = .ref (110 + 2 * j)) → (∀ a k, 110 ≤ a → a < 118 → k < (shp a).2 → hp' a k = tg a k) → Q none hp') : ∀ m i, i + m = 4 → ∀ hp1, (∀ a k, a < 109 → hp1 a k = hp a k) → (∀ j, j < i → hp1 109 j = .ref (110 + 2 * j)) → (∀ a k, 110 ≤ a → a < 110 + 2 * i → k < (shp a).2 → hp1 a k = tg a k) → T (TM (d + 1)) none Yt_init 118 52 [.ref 0, .int (nI i)] [] hp1 (110 + 2 * i) Q := by
  have s0 : shp 0 = (0, 5) := by decide
  have s9 : shp 109 = (19, 4) := by decide
  intro m
  induction m with
  | zero =>
    intro i hi hp1 f1 f2 f3
    obtain rfl : i = 4 := by omega
    rw [x_t_init_52]
    simp (disch := first | assumption | omega) only [x_t_init_0, x_t_init_1, x_t_init_4, x_t_init_5, x_t_init_8, x_t_init_9, x_t_init_12, x_t_init_15, x_t_init_16, x_t_init_19, x_t_init_20, x_t_init_23, x_t_init_26, x_t_init_27, x_t_init_30, x_t_init_31, x_t_init_34, x_t_init_37, x_t_init_38, x_t_init_39, x_t_init_42, x_t_init_43, x_t_init_44, x_t_init_47, x_t_init_50, x_t_init_51, x_t_init_53, x_t_init_54, x_t_init_57, x_t_init_58, x_t_init_61, x_t_init_62, x_t_init_65, x_t_init_66, x_t_init_69, x_t_init_70, x_t_init_73, x_t_init_76, q_le, Nat.le_refl, if_true, eqT, true_and]
    exact hQ hp1 f1 f2 (fun a k h1 h2 h3 => f3 a k h1 (by omega) h3)
  | succ m ih =>
    intro i hi hp1 f1 f2 f3
    have h9 : ¬ 4 ≤ i := by omega
    obtain ⟨t0, t1⟩ := s110 (show i < 4 from by omega)
    have g8 : hp1 0 4 = .ref 109 := (f1 0 4 (by omega)).trans h8
    rw [x_t_init_52]
    simp (disch := first | assumption | omega) only [x_t_init_0, x_t_init_1, x_t_init_4, x_t_init_5, x_t_init_8, x_t_init_9, x_t_init_12, x_t_init_15, x_t_init_16, x_t_init_19, x_t_init_20, x_t_init_23, x_t_init_26, x_t_init_27, x_t_init_30, x_t_init_31, x_t_init_34, x_t_init_37, x_t_init_38, x_t_init_39, x_t_init_42, x_t_init_43, x_t_init_44, x_t_init_47, x_t_init_50, x_t_init_51, x_t_init_53, x_t_init_54, x_t_init_57, x_t_init_58, x_t_init_61, x_t_init_62, x_t_init_65, x_t_init_66, x_t_init_69, x_t_init_70, x_t_init_73, x_t_init_76, q_le, h9, if_false, s0, g8, ltT, leT, t0, true_and]
    refine sp_h_init (d := d) t0 t1 (by omega) (fun k => i_16 t1 (by omega) (by omega) (by omega) k) (fun hp2 g0 g1 => ?_)
    have e3 : 110 + 2 * i + 1 + 1 = 110 + 2 * (i + 1) := by omega
    rw [TK_n, e3]
    simp (disch := first | assumption | omega) only [x_t_init_0, x_t_init_1, x_t_init_4, x_t_init_5, x_t_init_8, x_t_init_9, x_t_init_12, x_t_init_15, x_t_init_16, x_t_init_19, x_t_init_20, x_t_init_23, x_t_init_26, x_t_init_27, x_t_init_30, x_t_init_31, x_t_init_34, x_t_init_37, x_t_init_38, x_t_init_39, x_t_init_42, x_t_init_43, x_t_init_44, x_t_init_47, x_t_init_50, x_t_init_51, x_t_init_53, x_t_init_54, x_t_init_57, x_t_init_58, x_t_init_61, x_t_init_62, x_t_init_65, x_t_init_66, x_t_init_69, x_t_init_70, x_t_init_73, x_t_init_76, s9, t0, ltT, q_in, q_tn, q_add, true_and, or_true, and_self]
    refine ih (i + 1) (by omega) _ (fun a k ha => ?_) (fun j hj => ?_) (fun a k ha1 ha2 hk => ?_)
    · rw [mup_n (by omega), g0 a k (by omega), mrw_n (by omega)]; exact f1 a k ha
    · by_cases ej : j = i
      · subst ej; rw [mup_a]
      · rw [mup_n (by omega), g0 _ _ (by omega), mrw_n (by omega)]; exact f2 j (by omega)
    · rw [mup_n (by omega)]
      by_cases ea : a < 110 + 2 * i
      · rw [g0 _ _ ea, mrw_n (by omega)]; exact f3 a k ha1 ea hk
      · exact g1 a k (by omega) (by omega) hk
theorem t_st : tg 0 0 = .ref 1 ∧ tg 0 1 = .ref 37 ∧ tg 0 2 = .ref 73 ∧ tg 0 3 = .int (nI 0) ∧ tg 0 4 = .ref 109 := by
  have h : shp 0 = (0, 5) := by decide
  unfold tg
  refine ⟨?_, ?_, ?_, ?_, ?_⟩ <;> simp [mk, rv, h, tyk, iv0, rvc]
theorem t_109 (k : Nat) : tg 109 k = .ref (110 + 2 * k) := by
  have h : shp 109 = (19, 4) := by decide
  unfold tg
  rw [mk_r (by rw [h]; rfl), rv_of (c := 19) (by rw [h])]
  rfl
set_option maxHeartbeats 4000000 in
theorem sp_t_init (hQ : ∀ hp', BK 0 117 hp' → Q none hp') : TM (d + 3) Yt_init [.ref 0] hp 1 Q := by
  have s0 : shp 0 = (0, 5) := by decide
  have s1 : shp 1 = (1, 17) := by decide
  have s37 : shp 37 = (1, 17) := by decide
  have s73 : shp 73 = (1, 17) := by decide
  have s109 : shp 109 = (19, 4) := by decide
  obtain ⟨c0, c1', c2, c3, c4⟩ := t_st
  simp (disch := first | assumption | omega | exact Or.inl rfl) only [e_t_init, x_t_init_0, x_t_init_1, x_t_init_4, x_t_init_5, x_t_init_8, x_t_init_9, x_t_init_12, x_t_init_15, x_t_init_16, x_t_init_19, x_t_init_20, x_t_init_23, x_t_init_26, x_t_init_27, x_t_init_30, x_t_init_31, x_t_init_34, x_t_init_37, x_t_init_38, x_t_init_39, x_t_init_42, x_t_init_43, x_t_init_44, x_t_init_47, x_t_init_50, x_t_init_51, x_t_init_53, x_t_init_54, x_t_init_57, x_t_init_58, x_t_init_61, x_t_init_62, x_t_init_65, x_t_init_66, x_t_init_69, x_t_init_70, x_t_init_73, x_t_init_76, Nat.reduceAdd, s0, s1, ltT, leT, true_and]
  refine sp_o_init (d := d) isB1 (fun hp1 f1 b1 => ?_)
  rw [TK_n]
  simp (disch := first | assumption | omega | exact Or.inl rfl) only [x_t_init_0, x_t_init_1, x_t_init_4, x_t_init_5, x_t_init_8, x_t_init_9, x_t_init_12, x_t_init_15, x_t_init_16, x_t_init_19, x_t_init_20, x_t_init_23, x_t_init_26, x_t_init_27, x_t_init_30, x_t_init_31, x_t_init_34, x_t_init_37, x_t_init_38, x_t_init_39, x_t_init_42, x_t_init_43, x_t_init_44, x_t_init_47, x_t_init_50, x_t_init_51, x_t_init_53, x_t_init_54, x_t_init_57, x_t_init_58, x_t_init_61, x_t_init_62, x_t_init_65, x_t_init_66, x_t_init_69, x_t_init_70, x_t_init_73, x_t_init_76, Nat.reduceAdd, s0, s37, ltT, leT, true_and]
  refine sp_o_init (d := d) isB37 (fun hp2 f2 b2 => ?_)
  rw [TK_n]
  simp (disch := first | assumption | omega | exact Or.inl rfl) only [x_t_init_0, x_t_init_1, x_t_init_4, x_t_init_5, x_t_init_8, x_t_init_9, x_t_init_12, x_t_init_15, x_t_init_16, x_t_init_19, x_t_init_20, x_t_init_23, x_t_init_26, x_t_init_27, x_t_init_30, x_t_init_31, x_t_init_34, x_t_init_37, x_t_init_38, x_t_init_39, x_t_init_42, x_t_init_43, x_t_init_44, x_t_init_47, x_t_init_50, x_t_init_51, x_t_init_53, x_t_init_54, x_t_init_57, x_t_init_58, x_t_init_61, x_t_init_62, x_t_init_65, x_t_init_66, x_t_init_69, x_t_init_70, x_t_init_73, x_t_init_76, Nat.reduceAdd, s0, s73, ltT, leT, true_and]
  refine sp_o_init (d := d) isB73 (fun hp3 f3 b3 => ?_)
  rw [TK_n]
  simp (disch := first | assumption | omega | exact Or.inl rfl) only [x_t_init_0, x_t_init_1, x_t_init_4, x_t_init_5, x_t_init_8, x_t_init_9, x_t_init_12, x_t_init_15, x_t_init_16, x_t_init_19, x_t_init_20, x_t_init_23, x_t_init_26, x_t_init_27, x_t_init_30, x_t_init_31, x_t_init_34, x_t_init_37, x_t_init_38, x_t_init_39, x_t_init_42, x_t_init_43, x_t_init_44, x_t_init_47, x_t_init_50, x_t_init_51, x_t_init_53, x_t_init_54, x_t_init_57, x_t_init_58, x_t_init_61, x_t_init_62, x_t_init_65, x_t_init_66, x_t_init_69, x_t_init_70, x_t_init_73, x_t_init_76, Nat.reduceAdd, s0, s109, ltT, leT, true_and]
  refine lt_1 (d := d + 1) ?_ (fun hp' g0 g1 g2 => hQ hp' (fun a k ha1 ha2 hk => ?_)) 4 0 (by omega) _ (fun _ _ _ => rfl) (fun j hj => absurd hj (by omega)) (fun a k h1 h2 => absurd h2 (by omega))
  · exact mup_a _ _ _ _
  · by_cases p1 : 110 ≤ a
    · exact g2 a k p1 (by omega) hk
    · by_cases p2 : a = 109
      · subst p2
        rw [s109] at hk
        rw [g1 k hk, t_109]
      · rw [g0 a k (by omega)]
        by_cases p3 : a = 0
        · subst p3
          rw [s0] at hk
          have hk' : k = 0 ∨ k = 1 ∨ k = 2 ∨ k = 3 ∨ k = 4 := by simp only at hk; omega
          rcases hk' with rfl | rfl | rfl | rfl | rfl <;> simp (disch := first | assumption | omega) only [mup_n, mup_a, mrw_n, mrw_a, f1, f2, f3, c0, c1', c2, c3, c4]
        · by_cases p4 : 73 ≤ a
          · rw [← b3 a k p4 (by omega) hk]
            simp (disch := first | assumption | omega) only [mup_n, mrw_n]
          · by_cases p5 : 37 ≤ a
            · rw [← b2 a k p5 (by omega) hk]
              simp (disch := first | assumption | omega) only [mup_n, mrw_n, f3]
            · rw [← b1 a k (by omega) (by omega) hk]
              simp (disch := first | assumption | omega) only [mup_n, mrw_n, f3, f2]
/-! the reference's constructor -/
theorem lm_1 : ∀ m l, l + m = 9 → ∀ hp : mH, hp 118 0 = .ref 119 → T (TM d) none Ym_init 126 61 [.ref 118, .int (nI l)] [] hp 126 Q = T (TM d) none Ym_init 126 61 [.ref 118, .int (nI 9)] [] (mfi hp 119 l 9 (.long (lN 1))) 126 Q := by
  have s0 : shp 118 = (5, 15) := by decide
  have s1 : shp 119 = (17, 101) := by decide
  intro m
  induction m with
  | zero =>
    intro l hl hp h0
    obtain rfl : l = 9 := by omega
    rw [mfi_e]
  | succ m ih =>
    intro l hl hp h0
    have h9 : ¬ 9 ≤ l := by omega
    have h8 := ih (l + 1) (by omega) (mup hp 119 l (.long (lN 1))) (by rw [mup_n (by omega)]; exact h0)
    rw [mfi_s (by omega)] at h8
    rw [← h8, x_m_init_61]
    simp (disch := first | assumption | omega) only [x_m_init_62, x_m_init_64, x_m_init_67, x_m_init_68, x_m_init_71, x_m_init_72, x_m_init_73, x_m_init_74, x_m_init_75, x_m_init_76, x_m_init_79, q_le, h9, if_false, s0, s1, h0, ltT, q_in, q_tn, true_and, q_add, Nat.zero_add]
theorem lm_2 : ∀ m l, l + m = 3 → ∀ hp : mH, hp 118 0 = .ref 119 → T (TM d) none Ym_init 126 84 [.ref 118, .int (nI l)] [] hp 126 Q = T (TM d) none Ym_init 126 84 [.ref 118, .int (nI 3)] [] (mfi hp 119 (21 + l) 24 (.long (lN 8))) 126 Q := by
  have s0 : shp 118 = (5, 15) := by decide
  have s1 : shp 119 = (17, 101) := by decide
  intro m
  induction m with
  | zero =>
    intro l hl hp h0
    obtain rfl : l = 3 := by omega
    rw [mfi_e]
  | succ m ih =>
    intro l hl hp h0
    have h9 : ¬ 3 ≤ l := by omega
    have h8 := ih (l + 1) (by omega) (mup hp 119 (21 + l) (.long (lN 8))) (by rw [mup_n (by omega)]; exact h0)
    rw [← Nat.add_assoc, mfi_s (by omega)] at h8
    rw [← h8, x_m_init_84]
    simp (disch := first | assumption | omega) only [x_m_init_85, x_m_init_86, x_m_init_89, x_m_init_90, x_m_init_93, x_m_init_95, x_m_init_96, x_m_init_97, x_m_init_100, x_m_init_101, x_m_init_104, q_le, h9, if_false, s0, s1, h0, ltT, q_in, q_tn, true_and, q_add]
theorem lm_3 : ∀ m l, l + m = 4 → ∀ hp : mH, hp 118 9 = .ref 123 → T (TM d) none Ym_init 126 119 [.ref 118, .int (nI l)] [] hp 126 Q = T (TM d) none Ym_init 126 119 [.ref 118, .int (nI 4)] [] (mfi hp 123 l 4 (.int (-1))) 126 Q := by
  have s0 : shp 118 = (5, 15) := by decide
  have s1 : shp 123 = (16, 4) := by decide
  intro m
  induction m with
  | zero =>
    intro l hl hp h0
    obtain rfl : l = 4 := by omega
    rw [mfi_e]
  | succ m ih =>
    intro l hl hp h0
    have h9 : ¬ 4 ≤ l := by omega
    have h8 := ih (l + 1) (by omega) (mup hp 123 l (.int (-1))) (by rw [mup_n (by omega)]; exact h0)
    rw [mfi_s (by omega)] at h8
    rw [← h8, x_m_init_119]
    simp (disch := first | assumption | omega) only [x_m_init_120, x_m_init_121, x_m_init_124, x_m_init_125, x_m_init_128, x_m_init_129, x_m_init_130, x_m_init_131, x_m_init_134, q_le, h9, if_false, s0, s1, h0, ltT, q_in, q_tn, true_and, q_add]
theorem t_mo : (tg 118 0 = .ref 119 ∧ tg 118 1 = .ref 120 ∧ tg 118 2 = .ref 121 ∧ tg 118 3 = .int (nI 0) ∧ tg 118 4 = .ref 122 ∧ tg 118 5 = .int (nI 0) ∧ tg 118 6 = .long (lN 0) ∧ tg 118 7 = .long (lN 0)) ∧ tg 118 8 = .int (nI 0) ∧ tg 118 9 = .ref 123 ∧ tg 118 10 = .ref 124 ∧ tg 118 11 = .ref 125 ∧ tg 118 12 = .int (nI 0) ∧ tg 118 13 = .int (nI 0) ∧ tg 118 14 = .int (nI 0) := by
  have h : shp 118 = (5, 15) := by decide
  unfold tg
  refine ⟨⟨?_, ?_, ?_, ?_, ?_, ?_, ?_, ?_⟩, ?_, ?_, ?_, ?_, ?_, ?_, ?_⟩ <;> simp [mk, rv, h, tyk, iv0, jv0, rvc]
end INIT4
