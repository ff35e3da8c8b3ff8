section INIT5
variable {d n nm : Nat} {hp : mH} {Q : Option Value → mH → Prop} {q B : Nat}
set_option maxHeartbeats 4000000 in
theorem sp_m_init (hv : ∀ k, hp 118 k = vdf (mtyp 5 k)) (hQ : ∀ hp', (∀ a k, a < 118 → hp' a k = hp a k) → BK 118 7 hp' → Q none hp') : TM (d + 1) Ym_init [.ref 118] hp 119 Q := by
  have s0 : shp 118 = (5, 15) := by decide
  have s1 : shp 119 = (17, 101) := by decide
  have s2 : shp 120 = (17, 101) := by decide
  have s3 : shp 121 = (17, 101) := by decide
  have s4 : shp 122 = (17, 9) := by decide
  have s5 : shp 123 = (16, 4) := by decide
  have s6 : shp 124 = (16, 4) := by decide
  have s7 : shp 125 = (16, 160) := by decide
  obtain ⟨⟨c0, c1', c2, c3, c4, c5, c6, c7⟩, c8, c9, c10, c11, c12, c13, c14⟩ := t_mo
  simp (disch := first | assumption | omega | exact Or.inl rfl) only [e_m_init, x_m_init_0, x_m_init_1, x_m_init_4, x_m_init_5, x_m_init_7, x_m_init_9, x_m_init_12, x_m_init_13, x_m_init_15, x_m_init_17, x_m_init_20, x_m_init_21, x_m_init_23, x_m_init_25, x_m_init_28, x_m_init_29, x_m_init_31, x_m_init_33, x_m_init_36, x_m_init_37, x_m_init_38, x_m_init_40, x_m_init_43, x_m_init_44, x_m_init_45, x_m_init_47, x_m_init_50, x_m_init_51, x_m_init_54, x_m_init_56, x_m_init_59, x_m_init_60, x_m_init_62, x_m_init_64, x_m_init_67, x_m_init_68, x_m_init_71, x_m_init_72, x_m_init_73, x_m_init_74, x_m_init_75, x_m_init_76, x_m_init_79, x_m_init_82, x_m_init_83, x_m_init_85, x_m_init_86, x_m_init_89, x_m_init_90, x_m_init_93, x_m_init_95, x_m_init_96, x_m_init_97, x_m_init_100, x_m_init_101, x_m_init_104, x_m_init_107, x_m_init_108, x_m_init_111, x_m_init_113, x_m_init_116, x_m_init_117, x_m_init_118, x_m_init_120, x_m_init_121, x_m_init_124, x_m_init_125, x_m_init_128, x_m_init_129, x_m_init_130, x_m_init_131, x_m_init_134, x_m_init_137, Nat.reduceAdd, s0, s1, s2, s3, s4, s5, s6, s7, ltT, leT, true_and]
  refine (lm_1 9 0 (by omega) _ ?_).mpr ?_
  · simp (disch := first | assumption | omega) only [mup_n, mup_a, mrw_n, mrw_a]
  rw [x_m_init_61]
  simp (disch := first | assumption | omega) only [x_m_init_0, x_m_init_1, x_m_init_4, x_m_init_5, x_m_init_7, x_m_init_9, x_m_init_12, x_m_init_13, x_m_init_15, x_m_init_17, x_m_init_20, x_m_init_21, x_m_init_23, x_m_init_25, x_m_init_28, x_m_init_29, x_m_init_31, x_m_init_33, x_m_init_36, x_m_init_37, x_m_init_38, x_m_init_40, x_m_init_43, x_m_init_44, x_m_init_45, x_m_init_47, x_m_init_50, x_m_init_51, x_m_init_54, x_m_init_56, x_m_init_59, x_m_init_60, x_m_init_62, x_m_init_64, x_m_init_67, x_m_init_68, x_m_init_71, x_m_init_72, x_m_init_73, x_m_init_74, x_m_init_75, x_m_init_76, x_m_init_79, x_m_init_82, x_m_init_83, x_m_init_85, x_m_init_86, x_m_init_89, x_m_init_90, x_m_init_93, x_m_init_95, x_m_init_96, x_m_init_97, x_m_init_100, x_m_init_101, x_m_init_104, x_m_init_107, x_m_init_108, x_m_init_111, x_m_init_113, x_m_init_116, x_m_init_117, x_m_init_118, x_m_init_120, x_m_init_121, x_m_init_124, x_m_init_125, x_m_init_128, x_m_init_129, x_m_init_130, x_m_init_131, x_m_init_134, x_m_init_137, q_le, Nat.le_refl, if_true]
  refine (lm_2 3 0 (by omega) _ ?_).mpr ?_
  · simp (disch := first | assumption | omega) only [mup_n, mup_a, mrw_n, mrw_a, mfi_n]
  rw [x_m_init_84]
  simp (disch := first | assumption | omega) only [x_m_init_0, x_m_init_1, x_m_init_4, x_m_init_5, x_m_init_7, x_m_init_9, x_m_init_12, x_m_init_13, x_m_init_15, x_m_init_17, x_m_init_20, x_m_init_21, x_m_init_23, x_m_init_25, x_m_init_28, x_m_init_29, x_m_init_31, x_m_init_33, x_m_init_36, x_m_init_37, x_m_init_38, x_m_init_40, x_m_init_43, x_m_init_44, x_m_init_45, x_m_init_47, x_m_init_50, x_m_init_51, x_m_init_54, x_m_init_56, x_m_init_59, x_m_init_60, x_m_init_62, x_m_init_64, x_m_init_67, x_m_init_68, x_m_init_71, x_m_init_72, x_m_init_73, x_m_init_74, x_m_init_75, x_m_init_76, x_m_init_79, x_m_init_82, x_m_init_83, x_m_init_85, x_m_init_86, x_m_init_89, x_m_init_90, x_m_init_93, x_m_init_95, x_m_init_96, x_m_init_97, x_m_init_100, x_m_init_101, x_m_init_104, x_m_init_107, x_m_init_108, x_m_init_111, x_m_init_113, x_m_init_116, x_m_init_117, x_m_init_118, x_m_init_120, x_m_init_121, x_m_init_124, x_m_init_125, x_m_init_128, x_m_init_129, x_m_init_130, x_m_init_131, x_m_init_134, x_m_init_137, q_le, Nat.le_refl, if_true, mup_n, mup_a, mrw_n, mrw_a, mfi_n, s0, s1, ltT, q_in, q_tn, true_and]
  refine (lm_3 4 0 (by omega) _ ?_).mpr ?_
  · simp (disch := first | assumption | omega) only [mup_n, mup_a, mrw_n, mrw_a, mfi_n]
  rw [x_m_init_119]
  simp (disch := first | assumption | omega) only [x_m_init_0, x_m_init_1, x_m_init_4, x_m_init_5, x_m_init_7, x_m_init_9, x_m_init_12, x_m_init_13, x_m_init_15, x_m_init_17, x_m_init_20, x_m_init_21, x_m_init_23, x_m_init_25, x_m_init_28, x_m_init_29, x_m_init_31, x_m_init_33, x_m_init_36, x_m_init_37, x_m_init_38, x_m_init_40, x_m_init_43, x_m_init_44, x_m_init_45, x_m_init_47, x_m_init_50, x_m_init_51, x_m_init_54, x_m_init_56, x_m_init_59, x_m_init_60, x_m_init_62, x_m_init_64, x_m_init_67, x_m_init_68, x_m_init_71, x_m_init_72, x_m_init_73, x_m_init_74, x_m_init_75, x_m_init_76, x_m_init_79, x_m_init_82, x_m_init_83, x_m_init_85, x_m_init_86, x_m_init_89, x_m_init_90, x_m_init_93, x_m_init_95, x_m_init_96, x_m_init_97, x_m_init_100, x_m_init_101, x_m_init_104, x_m_init_107, x_m_init_108, x_m_init_111, x_m_init_113, x_m_init_116, x_m_init_117, x_m_init_118, x_m_init_120, x_m_init_121, x_m_init_124, x_m_init_125, x_m_init_128, x_m_init_129, x_m_init_130, x_m_init_131, x_m_init_134, x_m_init_137, q_le, Nat.le_refl, if_true, true_and]
  refine hQ _ (fun a k ha => ?_) (fun a k ha1 ha2 hk => ?_)
  · simp (disch := first | assumption | omega) only [mup_n, mrw_n, mfi_n]
  · have ha : a = 118 ∨ a = 119 ∨ a = 120 ∨ a = 121 ∨ a = 122 ∨ a = 123 ∨ a = 124 ∨ a = 125 := by omega
    rcases ha with rfl | rfl | rfl | rfl | rfl | rfl | rfl | rfl
    · rw [s0] at hk
      have hk' : k = 0 ∨ k = 1 ∨ k = 2 ∨ k = 3 ∨ k = 4 ∨ k = 5 ∨ k = 6 ∨ k = 7 ∨ k = 8 ∨ k = 9 ∨ k = 10 ∨ k = 11 ∨ k = 12 ∨ k = 13 ∨ k = 14 := by simp only at hk; omega
      rcases hk' with rfl | rfl | rfl | rfl | rfl | rfl | rfl | rfl | rfl | rfl | rfl | rfl | rfl | rfl | rfl <;> simp (disch := first | assumption | omega) only [mup_n, mup_a, mrw_n, mrw_a, mfi_n, hv, c0, c1', c2, c3, c4, c5, c6, c7, c8, c9, c10, c11, c12, c13, c14] <;> rfl
    · have e : tg 119 k = .long (lN (G0 k)) := by
        rw [t_17 s1]
        unfold jv0
        rw [s1]
        rfl
      rw [e]
      unfold G0
      by_cases k1 : k < 9
      · rw [if_pos k1]
        simp (disch := first | assumption | omega) only [mup_n, mfi_n, mfi_a, Nat.zero_le]
      · rw [if_neg k1]
        by_cases k2 : 21 ≤ k ∧ k < 24
        · rw [if_pos k2]
          obtain ⟨k3, k4⟩ := k2
          simp (disch := first | assumption | omega) only [mup_n, mfi_n, mfi_a]
        · rw [if_neg k2]
          by_cases k5 : k = 30
          · subst k5
            simp (disch := first | assumption | omega) only [mup_n, mup_a, mfi_n]
            rfl
          · rw [if_neg k5]
            simp (disch := first | assumption | omega) only [mup_n, mup_a, mrw_n, mrw_a, mfi_n]
            rfl
    · rw [j_17 s2 (by omega) (by omega)]
      simp (disch := first | assumption | omega) only [mup_n, mup_a, mrw_n, mrw_a, mfi_n]
      rfl
    · rw [j_17 s3 (by omega) (by omega)]
      simp (disch := first | assumption | omega) only [mup_n, mup_a, mrw_n, mrw_a, mfi_n]
      rfl
    · rw [j_17 s4 (by omega) (by omega)]
      simp (disch := first | assumption | omega) only [mup_n, mup_a, mrw_n, mrw_a, mfi_n]
      rfl
    · rw [s5] at hk
      have e : tg 123 k = .int (-1) := by
        rw [t_16 s5]
        unfold iv0
        rw [s5]
        rfl
      rw [e]
      simp (disch := first | assumption | omega) only [mfi_n, mfi_a, Nat.zero_le]
    · rw [i_16 s6 (by omega) (by omega) (by omega)]
      simp (disch := first | assumption | omega) only [mup_n, mup_a, mrw_n, mrw_a, mfi_n]
      rfl
    · rw [i_16 s7 (by omega) (by omega) (by omega)]
      simp (disch := first | assumption | omega) only [mup_n, mup_a, mrw_n, mrw_a, mfi_n]
      rfl
theorem G0_z {j : Nat} (h1 : 9 ≤ j) (h2 : ¬ (21 ≤ j ∧ j < 24)) (h3 : j ≠ 30) : G0 j = 0 := by
  unfold G0; rw [if_neg (by omega), if_neg h2, if_neg h3]
theorem ST_0 : ST 0 G0 := by
  refine ⟨⟨by decide, by decide, by decide, fun i hi => ?_, fun k hk => ?_, ?_, ?_, ?_, by decide, by decide, by decide, by decide, by decide⟩, fun k hk => ?_, ⟨0, by decide, by decide⟩, ⟨0, by decide, by decide⟩, fun _ => ⟨by decide, by decide⟩, fun i hi => ?_, by decide⟩
  · rw [G0_z (by omega) (by omega) (by omega), G0_z (by omega) (by omega) (by omega), G0_z (by omega) (by omega) (by omega), G0_z (by omega) (by omega) (by omega), G0_z (by omega) (by omega) (by omega), G0_z (by omega) (by omega) (by omega)]
    omega
  · rw [G0_z (by omega) (by omega) (by omega), G0_z (by omega) (by omega) (by omega)]
    omega
  · decide
  · decide
  · decide
  · rw [show G0 36 = 0 from by decide] at hk
    omega
  · rw [G0_z (by omega) (by omega) (by omega)]
    omega
theorem CR_0 : CR 1 G0 iv0 jv0 := by
  refine ⟨⟨by decide +kernel, by decide +kernel, by decide +kernel, by decide +kernel, by decide +kernel, by decide +kernel, by decide +kernel⟩, by decide +kernel, by decide +kernel, by decide +kernel, ⟨by decide +kernel, by decide +kernel, by decide +kernel, by decide +kernel⟩, fun k hk => ?_, fun hon => ?_, fun i hi => ?_, by decide +kernel⟩
  · rw [show G0 36 = 0 from by decide] at hk
    omega
  · exact absurd hon (by decide)
  · rw [show G0 29 = 0 from by decide] at hi
    omega
theorem INV_0 : INV 0 iv0 jv0 := by
  refine ⟨G0, ST_0, CR_0, fun k hk => ?_, Or.inl ⟨by decide +kernel, by decide +kernel⟩, fun s hs => ⟨?_, Or.inl ?_, 0, by decide, ?_, ?_, fun i hi => absurd hi (by omega)⟩⟩
  · unfold jv0
    rw [show shp 119 = (17, 101) from by decide]
    rfl
  · revert hs; revert s; decide +kernel
  · revert hs; revert s; decide +kernel
  · revert hs; revert s; decide +kernel
  · revert hs; revert s; decide +kernel
theorem law_go {L : Nat} (hL : L ≤ 3072) (xs : Nat → Int32) : T (TM 12) (some (L, xs)) Yl_law 126 0 [.ref 1000, mU, mU, mU] [] (fun _ _ => .null) 0 LQ := by
  have s0 : shp 0 = (0, mnf 0) := by decide
  have s118 : shp 118 = (5, mnf 5) := by decide
  rw [G_new (c := 0) (show mcd Yl_law 0 = some (.new 7, 3) from by decide +kernel) (by decide +kernel) (by decide)]
  refine ⟨s0, by decide, by decide, ?_⟩
  rw [G_dup (show mcd Yl_law 3 = some (.dup, 1) from by decide +kernel) rfl, G_init (j := Yt_init) (kd := 2) (g := 117) (show mcd Yl_law 4 = some (.invokespecial 9, 3) from by decide +kernel) (by decide +kernel) (by decide) (by decide +kernel) (by decide +kernel) (by decide +kernel) (Nat.le_of_ble_eq_true rfl)]
  refine ⟨by decide, by decide, ?_⟩
  refine sp_t_init (d := 9) (fun hp1 b1 => ?_)
  rw [TK_n, G_astore_n (k := 1) (show mcd Yl_law 7 = some (.astore_n 1, 1) from by decide +kernel) (Nat.le_of_ble_eq_true rfl) rfl, G_new (c := 5) (show mcd Yl_law 8 = some (.new 10, 3) from by decide +kernel) (by decide +kernel) (by decide)]
  refine ⟨s118, by decide, by decide, ?_⟩
  rw [G_dup (show mcd Yl_law 11 = some (.dup, 1) from by decide +kernel) rfl, G_init (j := Ym_init) (kd := 2) (g := 7) (show mcd Yl_law 12 = some (.invokespecial 12, 3) from by decide +kernel) (by decide +kernel) (by decide) (by decide +kernel) (by decide +kernel) (by decide +kernel) (Nat.le_of_ble_eq_true rfl)]
  refine ⟨by decide, by decide, ?_⟩
  refine sp_m_init (d := 11) (fun k => mrw_a _ _ _ _) (fun hp2 f2 b2 => ?_)
  rw [TK_n, G_astore_n (k := 2) (show mcd Yl_law 15 = some (.astore_n 2, 1) from by decide +kernel) (Nat.le_of_ble_eq_true rfl) rfl, G_iconst (show mcd Yl_law 16 = some (.iconst 0, 1) from by decide +kernel) (show _ = nI 0 from by decide), G_istore_n (k := 3) (show mcd Yl_law 17 = some (.istore_n 3, 1) from by decide +kernel) (Nat.le_of_ble_eq_true rfl) rfl]
  have hg : hag (mk iv0 jv0) hp2 := by
    intro a k hk
    show tg a k = _
    by_cases h1 : 118 ≤ a
    · by_cases h2 : a ≤ 118 + 7
      · exact (b2 a k h1 h2 hk).symm
      · exfalso
        have : shp a = (999, 0) := by
          unfold shp
          rw [List.getD_eq_getElem?_getD, List.getElem?_eq_none (by show 126 ≤ a; omega)]
          rfl
        rw [this] at hk
        exact absurd hk (Nat.not_lt_zero _)
    · rw [f2 a k (by omega), mrw_n (by omega)]
      exact (b1 a k (Nat.zero_le _) (by omega) hk).symm
  have hl : XL L xs 18 [.ref 1000, .ref 0, .ref 118, .int (nI (6 * 0))] [] iv0 jv0 := law_loop hL L 0 iv0 jv0 (by omega) (by omega) INV_0
  have hl2 := T_cong (TM_mono 12) (TM_cong 12) hg hl
  exact T_monoQ (TM_mono 12) (fun v h q => by obtain ⟨_, _, q⟩ := q; exact q) hl2
end INIT5
