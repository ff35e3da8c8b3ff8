section INIT3
variable {d n nm : Nat} {hp : mH} {Q : Option Value → mH → Prop} {q B : Nat}
theorem t_co (h : shp B = (1, 17)) : (tg B 0 = .ref (B + 1) ∧ tg B 1 = .ref (B + 2) ∧ tg B 2 = .ref (B + 3) ∧ tg B 3 = .ref (B + 4) ∧ tg B 4 = .int (nI 0) ∧ tg B 5 = .int (nI 4) ∧ tg B 6 = .int (nI 0) ∧ tg B 7 = .int (nI 0) ∧ tg B 8 = .ref (B + 5)) ∧ tg B 9 = .int (nI 0) ∧ tg B 10 = .ref (B + 6) ∧ tg B 11 = .int (nI 0) ∧ tg B 12 = .ref (B + 7) ∧ tg B 13 = .ref (B + 9) ∧ tg B 14 = .int (nI 0) ∧ tg B 15 = .ref (B + 10) ∧ tg B 16 = .ref (B + 11) := by
  unfold tg
  refine ⟨⟨?_, ?_, ?_, ?_, ?_, ?_, ?_, ?_, ?_⟩, ?_, ?_, ?_, ?_, ?_, ?_, ?_, ?_⟩ <;> simp [mk, rv, h, tyk, iv0, rvc]
theorem t_pri (hb : isB B) (k : Nat) : tg (B + 1) k = .int (nI 1) := by
  rw [t_16 (sB hb).2.1]
  unfold iv0
  rw [(sB hb).2.1]
  have hbs : B = 1 ∨ B = 37 ∨ B = 73 := hb
  simp only [show B + 1 = 2 ∨ B + 1 = 38 ∨ B + 1 = 74 from by omega, if_true]
theorem t_mos (hb : isB B) (k : Nat) : tg (B + 3) k = .int (nI 8) := by
  rw [t_16 (sB hb).2.2.2.1]
  unfold iv0
  rw [(sB hb).2.2.2.1]
  have hbs : B = 1 ∨ B = 37 ∨ B = 73 := hb
  simp only [show ¬ (B + 3 = 2 ∨ B + 3 = 38 ∨ B + 3 = 74) from by omega, show B + 3 = 4 ∨ B + 3 = 40 ∨ B + 3 = 76 from by omega, if_true, if_false]
theorem t_wro (hb : isB B) (k : Nat) : tg (B + 8) k = .long (lN 1) := by
  have h := (sB hb).2.2.2.2.2.2.2.2.1
  rw [t_17 h]
  unfold jv0
  rw [h]
  have hbs : B = 1 ∨ B = 37 ∨ B = 73 := hb
  simp only [show B + 8 = 9 ∨ B + 8 = 45 ∨ B + 8 = 81 from by omega, if_true]
theorem t_ite (hb : isB B) (k : Nat) : tg (B + 5) k = .ref (B + 12 + 3 * k) := by
  have h := (sB hb).2.2.2.2.2.1
  unfold tg
  rw [mk_r (by rw [h]; rfl), rI hb]
theorem t_z (hb : isB B) (k : Nat) : tg (B + 2) k = .int (nI 0) ∧ tg (B + 4) k = .int (nI 0) ∧ tg (B + 6) k = .int (nI 0) ∧ tg (B + 9) k = .int (nI 0) ∧ tg (B + 10) k = .int (nI 0) ∧ tg (B + 11) k = .long (lN 0) := by
  obtain ⟨s0, s1, s2, s3, s4, s5, s6, s7, s8, s9, s10, s11⟩ := sB hb
  have hbs : B = 1 ∨ B = 37 ∨ B = 73 := hb
  exact ⟨i_16 s2 (by omega) (by omega) (by omega) k, i_16 s4 (by omega) (by omega) (by omega) k, i_16 s6 (by omega) (by omega) (by omega) k, i_16 s9 (by omega) (by omega) (by omega) k, i_16 s10 (by omega) (by omega) (by omega) k, j_17 s11 (by omega) (by omega) k⟩
set_option maxHeartbeats 4000000 in
theorem sp_o_init (hb : isB B) (hQ : ∀ hp', (∀ a k, a < B → hp' a k = hp a k) → BK B 35 hp' → Q none hp') : TM (d + 2) Yo_init [.ref B] hp (B + 1) Q := by
  obtain ⟨s0, s1, s2, s3, s4, s5, s6, s7, s8, s9, s10, s11⟩ := sB hb
  have hlb := lt_B hb
  obtain ⟨⟨c0, c1', c2, c3, c4, c5, c6, c7, c8⟩, c9, c10, c11, c12, c13, c14, c15, c16⟩ := t_co s0
  have e2 : B + 1 + 1 = B + 2 := rfl
  have e3 : B + 2 + 1 = B + 3 := rfl
  have e4 : B + 3 + 1 = B + 4 := rfl
  have e5 : B + 4 + 1 = B + 5 := rfl
  have e6 : B + 5 + 1 = B + 6 := rfl
  have e7 : B + 6 + 1 = B + 7 := rfl
  have e8 : B + 7 + 1 = B + 8 := rfl
  have e9 : B + 8 + 1 = B + 9 := rfl
  have e10 : B + 9 + 1 = B + 10 := rfl
  have e11 : B + 10 + 1 = B + 11 := rfl
  have e12 : B + 11 + 1 = B + 12 := rfl
  have e36 : B + 1 + 35 = B + 36 := rfl
  simp (disch := first | assumption | omega | exact Or.inl rfl) only [e_o_init, x_o_init_0, x_o_init_1, x_o_init_4, x_o_init_5, x_o_init_7, x_o_init_9, x_o_init_12, x_o_init_13, x_o_init_14, x_o_init_16, x_o_init_19, x_o_init_20, x_o_init_21, x_o_init_23, x_o_init_26, x_o_init_27, x_o_init_28, x_o_init_30, x_o_init_33, x_o_init_34, x_o_init_35, x_o_init_38, x_o_init_39, x_o_init_40, x_o_init_43, x_o_init_44, x_o_init_45, x_o_init_48, x_o_init_49, x_o_init_50, x_o_init_53, x_o_init_54, x_o_init_56, x_o_init_59, x_o_init_62, x_o_init_63, x_o_init_64, x_o_init_67, x_o_init_68, x_o_init_69, x_o_init_71, x_o_init_74, x_o_init_75, x_o_init_76, x_o_init_79, x_o_init_80, x_o_init_83, x_o_init_84, x_o_init_87, x_o_init_90, x_o_init_91, x_o_init_93, x_o_init_95, x_o_init_98, x_o_init_99, x_o_init_100, x_o_init_103, x_o_init_104, x_o_init_106, x_o_init_108, x_o_init_111, x_o_init_112, x_o_init_114, x_o_init_116, x_o_init_119, x_o_init_120, x_o_init_122, x_o_init_124, x_o_init_127, x_o_init_128, x_o_init_131, x_o_init_132, x_o_init_133, x_o_init_134, x_o_init_137, x_o_init_140, x_o_init_141, x_o_init_143, x_o_init_144, x_o_init_147, x_o_init_148, x_o_init_151, x_o_init_152, x_o_init_154, x_o_init_155, x_o_init_158, x_o_init_161, x_o_init_162, x_o_init_164, x_o_init_166, x_o_init_169, x_o_init_170, x_o_init_173, x_o_init_174, x_o_init_177, x_o_init_178, x_o_init_181, x_o_init_182, x_o_init_185, x_o_init_188, e36, e2, e3, e4, e5, e6, e7, e8, s0, s1, s2, s3, s4, s5, s6, s7, ltT, leT, true_and]
  refine sp_w_init (d := d) s7 s8 (by omega) (fun k => t_wro hb k) (fun hp2 f2 b2 => ?_)
  rw [TK_n, e9]
  simp (disch := first | assumption | omega | exact Or.inl rfl) only [x_o_init_0, x_o_init_1, x_o_init_4, x_o_init_5, x_o_init_7, x_o_init_9, x_o_init_12, x_o_init_13, x_o_init_14, x_o_init_16, x_o_init_19, x_o_init_20, x_o_init_21, x_o_init_23, x_o_init_26, x_o_init_27, x_o_init_28, x_o_init_30, x_o_init_33, x_o_init_34, x_o_init_35, x_o_init_38, x_o_init_39, x_o_init_40, x_o_init_43, x_o_init_44, x_o_init_45, x_o_init_48, x_o_init_49, x_o_init_50, x_o_init_53, x_o_init_54, x_o_init_56, x_o_init_59, x_o_init_62, x_o_init_63, x_o_init_64, x_o_init_67, x_o_init_68, x_o_init_69, x_o_init_71, x_o_init_74, x_o_init_75, x_o_init_76, x_o_init_79, x_o_init_80, x_o_init_83, x_o_init_84, x_o_init_87, x_o_init_90, x_o_init_91, x_o_init_93, x_o_init_95, x_o_init_98, x_o_init_99, x_o_init_100, x_o_init_103, x_o_init_104, x_o_init_106, x_o_init_108, x_o_init_111, x_o_init_112, x_o_init_114, x_o_init_116, x_o_init_119, x_o_init_120, x_o_init_122, x_o_init_124, x_o_init_127, x_o_init_128, x_o_init_131, x_o_init_132, x_o_init_133, x_o_init_134, x_o_init_137, x_o_init_140, x_o_init_141, x_o_init_143, x_o_init_144, x_o_init_147, x_o_init_148, x_o_init_151, x_o_init_152, x_o_init_154, x_o_init_155, x_o_init_158, x_o_init_161, x_o_init_162, x_o_init_164, x_o_init_166, x_o_init_169, x_o_init_170, x_o_init_173, x_o_init_174, x_o_init_177, x_o_init_178, x_o_init_181, x_o_init_182, x_o_init_185, x_o_init_188, e10, e11, e12, s0, s9, s10, s11, ltT, leT, true_and]
  refine (lo_1 s0 s1 (by omega) 9 0 (by omega) _ ?_).mpr ?_
  · simp (disch := first | assumption | omega) only [mup_n, mup_a, mrw_n, mrw_a, f2]
  rw [x_o_init_121]
  simp (disch := first | assumption | omega) only [x_o_init_0, x_o_init_1, x_o_init_4, x_o_init_5, x_o_init_7, x_o_init_9, x_o_init_12, x_o_init_13, x_o_init_14, x_o_init_16, x_o_init_19, x_o_init_20, x_o_init_21, x_o_init_23, x_o_init_26, x_o_init_27, x_o_init_28, x_o_init_30, x_o_init_33, x_o_init_34, x_o_init_35, x_o_init_38, x_o_init_39, x_o_init_40, x_o_init_43, x_o_init_44, x_o_init_45, x_o_init_48, x_o_init_49, x_o_init_50, x_o_init_53, x_o_init_54, x_o_init_56, x_o_init_59, x_o_init_62, x_o_init_63, x_o_init_64, x_o_init_67, x_o_init_68, x_o_init_69, x_o_init_71, x_o_init_74, x_o_init_75, x_o_init_76, x_o_init_79, x_o_init_80, x_o_init_83, x_o_init_84, x_o_init_87, x_o_init_90, x_o_init_91, x_o_init_93, x_o_init_95, x_o_init_98, x_o_init_99, x_o_init_100, x_o_init_103, x_o_init_104, x_o_init_106, x_o_init_108, x_o_init_111, x_o_init_112, x_o_init_114, x_o_init_116, x_o_init_119, x_o_init_120, x_o_init_122, x_o_init_124, x_o_init_127, x_o_init_128, x_o_init_131, x_o_init_132, x_o_init_133, x_o_init_134, x_o_init_137, x_o_init_140, x_o_init_141, x_o_init_143, x_o_init_144, x_o_init_147, x_o_init_148, x_o_init_151, x_o_init_152, x_o_init_154, x_o_init_155, x_o_init_158, x_o_init_161, x_o_init_162, x_o_init_164, x_o_init_166, x_o_init_169, x_o_init_170, x_o_init_173, x_o_init_174, x_o_init_177, x_o_init_178, x_o_init_181, x_o_init_182, x_o_init_185, x_o_init_188, q_le, Nat.le_refl, if_true]
  refine (lo_2 s0 s3 (by omega) 3 0 (by omega) _ ?_).mpr ?_
  · simp (disch := first | assumption | omega) only [mup_n, mup_a, mrw_n, mrw_a, mfi_n, f2]
  rw [x_o_init_142]
  simp (disch := first | assumption | omega) only [x_o_init_0, x_o_init_1, x_o_init_4, x_o_init_5, x_o_init_7, x_o_init_9, x_o_init_12, x_o_init_13, x_o_init_14, x_o_init_16, x_o_init_19, x_o_init_20, x_o_init_21, x_o_init_23, x_o_init_26, x_o_init_27, x_o_init_28, x_o_init_30, x_o_init_33, x_o_init_34, x_o_init_35, x_o_init_38, x_o_init_39, x_o_init_40, x_o_init_43, x_o_init_44, x_o_init_45, x_o_init_48, x_o_init_49, x_o_init_50, x_o_init_53, x_o_init_54, x_o_init_56, x_o_init_59, x_o_init_62, x_o_init_63, x_o_init_64, x_o_init_67, x_o_init_68, x_o_init_69, x_o_init_71, x_o_init_74, x_o_init_75, x_o_init_76, x_o_init_79, x_o_init_80, x_o_init_83, x_o_init_84, x_o_init_87, x_o_init_90, x_o_init_91, x_o_init_93, x_o_init_95, x_o_init_98, x_o_init_99, x_o_init_100, x_o_init_103, x_o_init_104, x_o_init_106, x_o_init_108, x_o_init_111, x_o_init_112, x_o_init_114, x_o_init_116, x_o_init_119, x_o_init_120, x_o_init_122, x_o_init_124, x_o_init_127, x_o_init_128, x_o_init_131, x_o_init_132, x_o_init_133, x_o_init_134, x_o_init_137, x_o_init_140, x_o_init_141, x_o_init_143, x_o_init_144, x_o_init_147, x_o_init_148, x_o_init_151, x_o_init_152, x_o_init_154, x_o_init_155, x_o_init_158, x_o_init_161, x_o_init_162, x_o_init_164, x_o_init_166, x_o_init_169, x_o_init_170, x_o_init_173, x_o_init_174, x_o_init_177, x_o_init_178, x_o_init_181, x_o_init_182, x_o_init_185, x_o_init_188, q_le, Nat.le_refl, if_true]
  refine lo_3 (d := d) hb ?_ (fun hp' g0 g1 g2 => hQ hp' (fun a k ha => ?_) (fun a k ha1 ha2 hk => ?_)) 8 0 (by omega) _ (fun _ _ _ _ => rfl) (fun j hj => absurd hj (by omega)) (fun a k h1 h2 => absurd h2 (by omega))
  · simp (disch := first | assumption | omega) only [mup_n, mup_a, mrw_n, mrw_a, mfi_n, f2]
  · rw [g0 a k (by omega) (by omega)]
    simp (disch := first | assumption | omega) only [mup_n, mup_a, mrw_n, mrw_a, mfi_n, f2]
  · by_cases h12 : B + 12 ≤ a
    · exact g2 a k h12 (by omega) hk
    · have ha : a = B ∨ a = B + 1 ∨ a = B + 2 ∨ a = B + 3 ∨ a = B + 4 ∨ a = B + 5 ∨ a = B + 6 ∨ a = B + 7 ∨ a = B + 8 ∨ a = B + 9 ∨ a = B + 10 ∨ a = B + 11 := by omega
      obtain ⟨z2, z4, z6, z9, z10, z11⟩ := t_z hb k
      rcases ha with rfl | rfl | rfl | rfl | rfl | rfl | rfl | rfl | rfl | rfl | rfl | rfl
      · rw [g0 _ k (by omega) (by omega)]
        rw [s0] at hk
        have hk' : k = 0 ∨ k = 1 ∨ k = 2 ∨ k = 3 ∨ k = 4 ∨ k = 5 ∨ k = 6 ∨ k = 7 ∨ k = 8 ∨ k = 9 ∨ k = 10 ∨ k = 11 ∨ k = 12 ∨ k = 13 ∨ k = 14 ∨ k = 15 ∨ k = 16 := by simp only at hk; omega
        rcases hk' with rfl | rfl | rfl | rfl | rfl | rfl | rfl | rfl | rfl | rfl | rfl | rfl | rfl | rfl | rfl | rfl | rfl <;> simp (disch := first | assumption | omega) only [mup_n, mup_a, mrw_n, mrw_a, mfi_n, f2, c0, c1', c2, c3, c4, c5, c6, c7, c8, c9, c10, c11, c12, c13, c14, c15, c16]
      · rw [s1] at hk
        rw [g0 _ k (by omega) (by omega), t_pri hb]
        simp (disch := first | assumption | omega) only [mfi_n, mfi_a, Nat.zero_le]
      · rw [g0 _ k (by omega) (by omega), z2]
        simp (disch := first | assumption | omega) only [mup_n, mup_a, mrw_n, mrw_a, mfi_n, f2]
        rfl
      · rw [s3] at hk
        rw [g0 _ k (by omega) (by omega), t_mos hb]
        simp (disch := first | assumption | omega) only [mfi_n, mfi_a, Nat.zero_le]
      · rw [g0 _ k (by omega) (by omega), z4]
        simp (disch := first | assumption | omega) only [mup_n, mup_a, mrw_n, mrw_a, mfi_n, f2]
        rfl
      · rw [s5] at hk
        rw [g1 k hk, t_ite hb]
      · rw [g0 _ k (by omega) (by omega), z6]
        simp (disch := first | assumption | omega) only [mup_n, mup_a, mrw_n, mrw_a, mfi_n, f2]
        rfl
      · rw [g0 _ k (by omega) (by omega), ← b2 _ k (by omega) (by omega) hk]
        simp (disch := first | assumption | omega) only [mup_n, mup_a, mrw_n, mrw_a, mfi_n]
      · rw [g0 _ k (by omega) (by omega), ← b2 _ k (by omega) (by omega) hk]
        simp (disch := first | assumption | omega) only [mup_n, mup_a, mrw_n, mrw_a, mfi_n]
      · rw [g0 _ k (by omega) (by omega), z9]
        simp (disch := first | assumption | omega) only [mup_n, mup_a, mrw_n, mrw_a, mfi_n]
        rfl
      · rw [g0 _ k (by omega) (by omega), z10]
        simp (disch := first | assumption | omega) only [mup_n, mup_a, mrw_n, mrw_a, mfi_n]
        rfl
      · rw [g0 _ k (by omega) (by omega), z11]
        simp (disch := first | assumption | omega) only [mup_n, mup_a, mrw_n, mrw_a, mfi_n]
        rfl
end INIT3
