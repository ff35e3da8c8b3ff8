section BEST4
variable {d : Nat} {iv : mI} {jv : mJ} {Q : Option Value → mH → Prop} {G : Nat → Nat} {B : Nat}
theorem frB_iff (G : Nat → Nat) (i : Nat) : frB G i = true ↔ ((askB G (G 36)).testBit i = false ∧ (G 35).testBit i = false) := by
  unfold frB
  cases (askB G (G 36)).testBit i <;> cases (G 35).testBit i <;> simp
theorem ask_lt256 (hB : IB G) : askB G (G 36) < 256 := askB_lt (fun k hk => (hB.2.2.2.2.1 k hk).1) _ hB.2.1
theorem ask_bit_lt (hD : DS G) {i : Nat} (h : (askB G (G 36)).testBit i = true) : i < G 29 := by
  obtain ⟨k, hk, e⟩ := (askB_bit i _).mp h
  have := (hD k hk).1
  omega
theorem wk_eq (hB : IB G) (hD : DS G) : bsS (wkP G) (G 29) = askB G (G 36) := by
  apply Nat.eq_of_testBit_eq
  intro i
  rw [bsS_bit]
  unfold wkP
  cases h : (askB G (G 36)).testBit i
  · simp
  · have := ask_bit_lt hD h
    simp [this]
def frM (G : Nat → Nat) : Nat := bsS (frB G) (G 29)
theorem frM_bit (G : Nat → Nat) (i : Nat) : (frM G).testBit i = (decide (i < G 29) && frB G i) := bsS_bit _ _ _
theorem frM_lt (G : Nat → Nat) : frM G < 2 ^ G 29 := bsS_lt _ _
theorem and_0 {a b : Nat} : a &&& b = 0 ↔ ∀ i, a.testBit i = true → b.testBit i = false := by
  constructor
  · intro h i h1
    have := congrArg (fun z => z.testBit i) h
    simp only [Nat.testBit_and, h1, Bool.true_and, Nat.zero_testBit] at this
    exact this
  · intro h
    apply Nat.eq_of_testBit_eq
    intro i
    rw [Nat.testBit_and, Nat.zero_testBit]
    cases h1 : a.testBit i
    · rfl
    · rw [h i h1]; rfl
theorem dif_0 {a s : Nat} : dif a s = 0 ↔ ∀ i, a.testBit i = true → s.testBit i = true := by
  constructor
  · intro h i h1
    have := congrArg (fun z => z.testBit i) h
    simp only [dif_bit, h1, Bool.true_and, Nat.zero_testBit, Bool.not_eq_false'] at this
    exact this
  · intro h
    apply Nat.eq_of_testBit_eq
    intro i
    rw [dif_bit, Nat.zero_testBit]
    cases h1 : a.testBit i
    · rfl
    · rw [h i h1]; rfl
theorem frM_A (G : Nat → Nat) : frM G &&& askB G (G 36) = 0 := by
  rw [and_0]
  intro i h
  rw [frM_bit, Bool.and_eq_true] at h
  exact ((frB_iff G i).mp h.2).1
theorem sub_A {G : Nat → Nat} {f : Nat} (h : dif f (frM G) = 0) : f &&& askB G (G 36) = 0 := by
  rw [and_0]
  intro i h1
  exact and_0.mp (frM_A G) i (dif_0.mp h i h1)
theorem add_A (hB : IB G) {f : Nat} (hf : f < 256) (h : dif f (frM G) = 0) : askB G (G 36) ||| f = askB G (G 36) + f := or_add _ (ask_lt256 hB) _ hf (sub_A h)
theorem dif_add (hB : IB G) {f : Nat} (hf : f < 256) (h : dif f (frM G) = 0) : dif (askB G (G 36) + f) (askB G (G 36)) = f := by
  rw [← add_A hB hf h]
  have h2 := and_0.mp (sub_A h)
  apply Nat.eq_of_testBit_eq
  intro i
  rw [dif_bit, Nat.testBit_or]
  cases h1 : f.testBit i
  · cases (askB G (G 36)).testBit i <;> rfl
  · rw [h2 i h1]; rfl
/-- a SHADOW is the ITEMS asked and free ones -/
theorem sh_dec (hB : IB G) {s : Nat} (hs : s < 2 ^ G 29) (h : shQ G s = true) : s = askB G (G 36) + dif s (askB G (G 36)) ∧ dif (dif s (askB G (G 36))) (frM G) = 0 := by
  obtain ⟨⟨h1, h2, h3⟩, h4⟩ := (shQ_iff G s).mp h
  have hp := pow_le hB.1
  refine ⟨sub_add _ (ask_lt256 hB) _ (by omega) h2, ?_⟩
  rw [dif_0]
  intro i hi
  have h5 := and_0.mp h3 i hi
  rw [dif_bit, Bool.and_eq_true] at hi
  have h6 : i < G 29 := by
    rcases Nat.lt_or_ge i (G 29) with e | e
    · exact e
    · have := Nat.testBit_lt_two_pow (x := s) (i := i) (Nat.lt_of_lt_of_le hs (Nat.pow_le_pow_right (by decide) e))
      rw [this] at hi
      exact absurd hi.1 (by decide)
  rw [frM_bit, Bool.and_eq_true]
  refine ⟨by simpa using h6, (frB_iff G i).mpr ⟨by simpa using hi.2, h5⟩⟩
theorem sub_le {f m : Nat} (h : dif f m = 0) : f ≤ m := by
  have : f &&& m = f := by
    apply Nat.eq_of_testBit_eq
    intro i
    rw [Nat.testBit_and]
    cases h1 : f.testBit i
    · rfl
    · rw [dif_0.mp h i h1]; rfl
  rw [← this]; exact Nat.and_le_right
theorem aM_lt (hB : IB G) (hD : DS G) : askB G (G 36) + frM G < 2 ^ G 29 := by
  have hp := pow_le hB.1
  have h1 := frM_lt G
  have h2 : askB G (G 36) < 2 ^ G 29 := by
    rw [← wk_eq hB hD]; exact bsS_lt _ _
  have h3 : dif (frM G) (frM G) = 0 := dif_0.mpr (fun _ h => h)
  rw [← add_A hB (by omega) h3]
  exact Nat.or_lt_two_pow h2 h1
theorem sc_no {G : Nat → Nat} {k : Nat} (h : ¬ shQ G k = true) : sc G (k + 1) = sc G k := by
  rw [sc_s, if_neg h]
  split <;> rfl
theorem sc_lo (hB : IB G) (hD : DS G) : ∀ k, k ≤ askB G (G 36) → sc G k = (0, 0, false)
  | 0, _ => rfl
  | k + 1, hk => by
    rw [sc_no, sc_lo hB hD k (by omega)]
    intro h
    have h1 := aM_lt hB hD
    have := (sh_dec hB (s := k) (by omega) h).1
    omega
theorem sc_hi (hB : IB G) (hD : DS G) : ∀ n k, askB G (G 36) + frM G + 1 ≤ k → k + n = 2 ^ G 29 → sc G k = scN G
  | 0, k, _, hk => by obtain rfl : k = 2 ^ G 29 := by omega
                      rfl
  | n + 1, k, h1, hk => by
    have hp := pow_le hB.1
    rw [← sc_hi hB hD n (k + 1) (by omega) (by omega), sc_no]
    intro h
    obtain ⟨e1, e2⟩ := sh_dec hB (s := k) (by omega) h
    have := sub_le e2
    omega
theorem scN_hi (hB : IB G) (hD : DS G) : sc G (askB G (G 36) + frM G + 1) = scN G := by
  have h1 := aM_lt hB hD
  exact sc_hi hB hD (2 ^ G 29 - (askB G (G 36) + frM G + 1)) _ (Nat.le_refl _) (by omega)
/-- the class's three tests -/
theorem sh_of (hB : IB G) {f : Nat} (hf : f < 256) (h : dif f (frM G) = 0) : shQ G (askB G (G 36) + f) = (decide (cntB (askB G (G 36) + f) 8 = G 30) && kqB G (askB G (G 36) + f)) := by
  have h3 : dif (askB G (G 36)) (askB G (G 36) + f) = 0 := by
    rw [dif_0, ← add_A hB hf h]
    intro i hi
    rw [Nat.testBit_or, hi]; rfl
  have h4 : dif (askB G (G 36) + f) (askB G (G 36)) &&& G 35 = 0 := by
    rw [dif_add hB hf h, and_0]
    intro i hi
    have := dif_0.mp h i hi
    rw [frM_bit, Bool.and_eq_true] at this
    exact ((frB_iff G i).mp this.2).2
  apply Bool.eq_iff_iff.mpr
  rw [shQ_iff, Bool.and_eq_true, decide_eq_true_eq, kqB_iff]
  unfold shB
  constructor
  · rintro ⟨⟨a, _, _⟩, b⟩; exact ⟨a, b⟩
  · rintro ⟨a, b⟩; exact ⟨⟨a, h3, h4⟩, b⟩
theorem sh_not (hB : IB G) {f : Nat} (hs : askB G (G 36) + f < 2 ^ G 29) (h : ¬ dif f (frM G) = 0) : ¬ shQ G (askB G (G 36) + f) = true := by
  intro h1
  obtain ⟨e1, e2⟩ := sh_dec hB hs h1
  have : f = dif (askB G (G 36) + f) (askB G (G 36)) := by omega
  rw [← this] at e2
  exact h e2
def b8 (b m : Nat) : Int32 := if m = 0 then -8 else nI b
end BEST4
section BEST5
variable {d : Nat} {iv : mI} {jv : mJ} {Q : Option Value → mH → Prop} {G : Nat → Nat} {B : Nat}
theorem sub1_or {a b : Nat} : nI a ||| nI b = nI (a ||| b) := nI_or a b
theorem lp_o_best2 (hb : isB B) (hC : CR B G iv jv) (hB : IB G) (hD : DS G) (hI : ∀ i, i < G 29 → jv (B + 11) i = lo (Tn G i)) : ∀ n f, f + n = frM G + 1 → (sc G (askB G (G 36) + f)).2.2 = false → ∀ u7 u8 u9, XT (d + 2) Yo_bestTest 87 [.ref B, .int (nI (askB G (G 36))), .int (nI (frM G)), .int (b8 (sc G (askB G (G 36) + f)).1 (sc G (askB G (G 36) + f)).2.1), .long (mo (sc G (askB G (G 36) + f)).2.1), mW, .int (nI f), u7, u8, u9] [] iv jv Q = Q (some (.int (shV G))) (mk iv jv) := by
  obtain ⟨⟨c4, c5, c6, c7, c9, c11, c14⟩, cp, ca, cb, cw, ck, cm, ci, ch⟩ := id hC
  obtain ⟨s0, s1, s2, s3, s4, s5, s6, s7, s8, s9, s10, s11⟩ := sB hb
  have hp := pow_le hB.1
  have hAM := aM_lt hB hD
  have hN := scN_hi hB hD
  have b30 := hB.2.2.2.2.2.2.2.2.1.2
  intro n
  induction n with
  | zero =>
    intro f hf hs u7 u8 u9
    obtain rfl : f = frM G + 1 := by omega
    have e : askB G (G 36) + (frM G + 1) = askB G (G 36) + frM G + 1 := by omega
    have h4 : frM G < frM G + 1 := by omega
    have e5 : shV G = b8 (scN G).1 (scN G).2.1 := by
      rw [e, hN] at hs
      unfold shV b8
      rw [if_neg (by rw [hs]; decide)]
    rw [e, hN, e5, x_o_bestTest_87]
    simp (disch := first | assumption | omega) only [x_o_bestTest_0, x_o_bestTest_1, x_o_bestTest_2, x_o_bestTest_3, x_o_bestTest_4, x_o_bestTest_5, x_o_bestTest_7, x_o_bestTest_8, x_o_bestTest_11, x_o_bestTest_14, x_o_bestTest_15, x_o_bestTest_18, x_o_bestTest_19, x_o_bestTest_20, x_o_bestTest_23, x_o_bestTest_24, x_o_bestTest_27, x_o_bestTest_28, x_o_bestTest_29, x_o_bestTest_30, x_o_bestTest_31, x_o_bestTest_32, x_o_bestTest_33, x_o_bestTest_34, x_o_bestTest_37, x_o_bestTest_38, x_o_bestTest_39, x_o_bestTest_42, x_o_bestTest_45, x_o_bestTest_46, x_o_bestTest_47, x_o_bestTest_48, x_o_bestTest_49, x_o_bestTest_50, x_o_bestTest_51, x_o_bestTest_52, x_o_bestTest_55, x_o_bestTest_56, x_o_bestTest_57, x_o_bestTest_60, x_o_bestTest_61, x_o_bestTest_64, x_o_bestTest_65, x_o_bestTest_66, x_o_bestTest_69, x_o_bestTest_70, x_o_bestTest_73, x_o_bestTest_76, x_o_bestTest_78, x_o_bestTest_79, x_o_bestTest_82, x_o_bestTest_84, x_o_bestTest_85, x_o_bestTest_89, x_o_bestTest_90, x_o_bestTest_93, x_o_bestTest_94, x_o_bestTest_96, x_o_bestTest_97, x_o_bestTest_99, x_o_bestTest_101, x_o_bestTest_102, x_o_bestTest_103, x_o_bestTest_104, x_o_bestTest_105, x_o_bestTest_108, x_o_bestTest_110, x_o_bestTest_113, x_o_bestTest_114, x_o_bestTest_117, x_o_bestTest_120, x_o_bestTest_121, x_o_bestTest_123, x_o_bestTest_126, x_o_bestTest_129, x_o_bestTest_132, x_o_bestTest_133, x_o_bestTest_135, x_o_bestTest_138, x_o_bestTest_140, x_o_bestTest_142, x_o_bestTest_143, x_o_bestTest_144, x_o_bestTest_147, x_o_bestTest_149, x_o_bestTest_150, x_o_bestTest_152, x_o_bestTest_154, x_o_bestTest_155, x_o_bestTest_158, x_o_bestTest_160, x_o_bestTest_162, x_o_bestTest_164, x_o_bestTest_165, x_o_bestTest_168, x_o_bestTest_171, x_o_bestTest_172, q_lt, h4, if_true]
  | succ n ih =>
    intro f hf hs u7 u8 u9
    have h4 : ¬ frM G < f := by omega
    have h6 := sc_lt G (askB G (G 36) + f)
    have h8 := ih (f + 1) (by omega)
    rw [← Nat.add_assoc] at h8
    by_cases p1 : dif f (frM G) = 0
    · have eA := add_A hB (f := f) (by omega) p1
      have eD := dif_add hB (f := f) (by omega) p1
      have eS := sh_of hB (f := f) (by omega) p1
      have hj : jf G (askB G (G 36) + f) = gsi G f (G 29) := by unfold jf; rw [eD]
      have jl := gsi_lt G f (G 29)
      have cl := cntB_le (askB G (G 36) + f) 8
      have hto := fun (Q : Option Value → mH → Prop) => sp_o_together (d := d) (Q := Q) (s := f) (show f < 256 from by omega) hb (hC.1) hB hI
      have hkq := fun (Q : Option Value → mH → Prop) => sp_o_keeps (d := d) (Q := Q) (s := askB G (G 36) + f) (show _ < 256 from by omega) hb hC hB
      by_cases p2 : cntB (askB G (G 36) + f) 8 = G 30
      · by_cases p3 : kqB G (askB G (G 36) + f) = true
        · have hq : shQ G (askB G (G 36) + f) = true := by rw [eS, p3]; simp [p2]
          rw [sc_s, if_neg (by rw [hs]; decide), if_pos hq, hj] at h8
          by_cases p4 : (gsi G f (G 29)).2 = true
          · have e3 : (sc G (askB G (G 36) + f + 1)).2.2 = true := by rw [sc_s, if_neg (by rw [hs]; decide), if_pos hq, hj, if_pos p4]
            have e4 : (scN G).2.2 = true := by
              have h := sc_great e3 (2 ^ G 29 - (askB G (G 36) + f + 1))
              unfold scN; rw [show 2 ^ G 29 = askB G (G 36) + f + 1 + (2 ^ G 29 - (askB G (G 36) + f + 1)) from by omega]; exact h
            have e5 : shV G = -7 := by unfold shV; rw [if_pos e4]
            rw [e5, x_o_bestTest_87]
            simp (disch := first | assumption | omega) only [x_o_bestTest_0, x_o_bestTest_1, x_o_bestTest_2, x_o_bestTest_3, x_o_bestTest_4, x_o_bestTest_5, x_o_bestTest_7, x_o_bestTest_8, x_o_bestTest_11, x_o_bestTest_14, x_o_bestTest_15, x_o_bestTest_18, x_o_bestTest_19, x_o_bestTest_20, x_o_bestTest_23, x_o_bestTest_24, x_o_bestTest_27, x_o_bestTest_28, x_o_bestTest_29, x_o_bestTest_30, x_o_bestTest_31, x_o_bestTest_32, x_o_bestTest_33, x_o_bestTest_34, x_o_bestTest_37, x_o_bestTest_38, x_o_bestTest_39, x_o_bestTest_42, x_o_bestTest_45, x_o_bestTest_46, x_o_bestTest_47, x_o_bestTest_48, x_o_bestTest_49, x_o_bestTest_50, x_o_bestTest_51, x_o_bestTest_52, x_o_bestTest_55, x_o_bestTest_56, x_o_bestTest_57, x_o_bestTest_60, x_o_bestTest_61, x_o_bestTest_64, x_o_bestTest_65, x_o_bestTest_66, x_o_bestTest_69, x_o_bestTest_70, x_o_bestTest_73, x_o_bestTest_76, x_o_bestTest_78, x_o_bestTest_79, x_o_bestTest_82, x_o_bestTest_84, x_o_bestTest_85, x_o_bestTest_89, x_o_bestTest_90, x_o_bestTest_93, x_o_bestTest_94, x_o_bestTest_96, x_o_bestTest_97, x_o_bestTest_99, x_o_bestTest_101, x_o_bestTest_102, x_o_bestTest_103, x_o_bestTest_104, x_o_bestTest_105, x_o_bestTest_108, x_o_bestTest_110, x_o_bestTest_113, x_o_bestTest_114, x_o_bestTest_117, x_o_bestTest_120, x_o_bestTest_121, x_o_bestTest_123, x_o_bestTest_126, x_o_bestTest_129, x_o_bestTest_132, x_o_bestTest_133, x_o_bestTest_135, x_o_bestTest_138, x_o_bestTest_140, x_o_bestTest_142, x_o_bestTest_143, x_o_bestTest_144, x_o_bestTest_147, x_o_bestTest_149, x_o_bestTest_150, x_o_bestTest_152, x_o_bestTest_154, x_o_bestTest_155, x_o_bestTest_158, x_o_bestTest_160, x_o_bestTest_162, x_o_bestTest_164, x_o_bestTest_165, x_o_bestTest_168, x_o_bestTest_171, x_o_bestTest_172, q_lt, h4, if_false, nI_or, eA, nI_dif, p1, if_true, sp_bitCount, XK_s, s0, true_and, c5, q_eq, eq_true p2, hkq, b01_eq0, eq_true p3, not_true_eq_false, hto, c_ge, lo_ge0, p4]
          · have p4' : (gsi G f (G 29)).2 = false := by simpa using p4
            have el := lo_f p4'
            rw [if_neg p4] at h8
            by_cases p5 : (sc G (askB G (G 36) + f)).2.1 ≤ (gsi G f (G 29)).1
            · rw [if_pos p5] at h8
              have h8 := h8 rfl
              simp only [mo_s] at h8
              rw [show b8 (askB G (G 36) + f) ((gsi G f (G 29)).1 + 1) = nI (askB G (G 36) + f) from if_neg (by omega)] at h8
              rw [x_o_bestTest_87]
              simp (disch := first | assumption | omega) only [x_o_bestTest_0, x_o_bestTest_1, x_o_bestTest_2, x_o_bestTest_3, x_o_bestTest_4, x_o_bestTest_5, x_o_bestTest_7, x_o_bestTest_8, x_o_bestTest_11, x_o_bestTest_14, x_o_bestTest_15, x_o_bestTest_18, x_o_bestTest_19, x_o_bestTest_20, x_o_bestTest_23, x_o_bestTest_24, x_o_bestTest_27, x_o_bestTest_28, x_o_bestTest_29, x_o_bestTest_30, x_o_bestTest_31, x_o_bestTest_32, x_o_bestTest_33, x_o_bestTest_34, x_o_bestTest_37, x_o_bestTest_38, x_o_bestTest_39, x_o_bestTest_42, x_o_bestTest_45, x_o_bestTest_46, x_o_bestTest_47, x_o_bestTest_48, x_o_bestTest_49, x_o_bestTest_50, x_o_bestTest_51, x_o_bestTest_52, x_o_bestTest_55, x_o_bestTest_56, x_o_bestTest_57, x_o_bestTest_60, x_o_bestTest_61, x_o_bestTest_64, x_o_bestTest_65, x_o_bestTest_66, x_o_bestTest_69, x_o_bestTest_70, x_o_bestTest_73, x_o_bestTest_76, x_o_bestTest_78, x_o_bestTest_79, x_o_bestTest_82, x_o_bestTest_84, x_o_bestTest_85, x_o_bestTest_89, x_o_bestTest_90, x_o_bestTest_93, x_o_bestTest_94, x_o_bestTest_96, x_o_bestTest_97, x_o_bestTest_99, x_o_bestTest_101, x_o_bestTest_102, x_o_bestTest_103, x_o_bestTest_104, x_o_bestTest_105, x_o_bestTest_108, x_o_bestTest_110, x_o_bestTest_113, x_o_bestTest_114, x_o_bestTest_117, x_o_bestTest_120, x_o_bestTest_121, x_o_bestTest_123, x_o_bestTest_126, x_o_bestTest_129, x_o_bestTest_132, x_o_bestTest_133, x_o_bestTest_135, x_o_bestTest_138, x_o_bestTest_140, x_o_bestTest_142, x_o_bestTest_143, x_o_bestTest_144, x_o_bestTest_147, x_o_bestTest_149, x_o_bestTest_150, x_o_bestTest_152, x_o_bestTest_154, x_o_bestTest_155, x_o_bestTest_158, x_o_bestTest_160, x_o_bestTest_162, x_o_bestTest_164, x_o_bestTest_165, x_o_bestTest_168, x_o_bestTest_171, x_o_bestTest_172, q_lt, h4, if_false, nI_or, eA, nI_dif, p1, if_true, sp_bitCount, XK_s, s0, true_and, c5, q_eq, eq_true p2, hkq, b01_eq0, eq_true p3, not_true_eq_false, hto, c_ge, c_le, el, q_lle, Nat.zero_le, mo_le, p5, q_add]
              exact h8 _ _ _
            · rw [if_neg p5] at h8
              rw [x_o_bestTest_87]
              simp (disch := first | assumption | omega) only [x_o_bestTest_0, x_o_bestTest_1, x_o_bestTest_2, x_o_bestTest_3, x_o_bestTest_4, x_o_bestTest_5, x_o_bestTest_7, x_o_bestTest_8, x_o_bestTest_11, x_o_bestTest_14, x_o_bestTest_15, x_o_bestTest_18, x_o_bestTest_19, x_o_bestTest_20, x_o_bestTest_23, x_o_bestTest_24, x_o_bestTest_27, x_o_bestTest_28, x_o_bestTest_29, x_o_bestTest_30, x_o_bestTest_31, x_o_bestTest_32, x_o_bestTest_33, x_o_bestTest_34, x_o_bestTest_37, x_o_bestTest_38, x_o_bestTest_39, x_o_bestTest_42, x_o_bestTest_45, x_o_bestTest_46, x_o_bestTest_47, x_o_bestTest_48, x_o_bestTest_49, x_o_bestTest_50, x_o_bestTest_51, x_o_bestTest_52, x_o_bestTest_55, x_o_bestTest_56, x_o_bestTest_57, x_o_bestTest_60, x_o_bestTest_61, x_o_bestTest_64, x_o_bestTest_65, x_o_bestTest_66, x_o_bestTest_69, x_o_bestTest_70, x_o_bestTest_73, x_o_bestTest_76, x_o_bestTest_78, x_o_bestTest_79, x_o_bestTest_82, x_o_bestTest_84, x_o_bestTest_85, x_o_bestTest_89, x_o_bestTest_90, x_o_bestTest_93, x_o_bestTest_94, x_o_bestTest_96, x_o_bestTest_97, x_o_bestTest_99, x_o_bestTest_101, x_o_bestTest_102, x_o_bestTest_103, x_o_bestTest_104, x_o_bestTest_105, x_o_bestTest_108, x_o_bestTest_110, x_o_bestTest_113, x_o_bestTest_114, x_o_bestTest_117, x_o_bestTest_120, x_o_bestTest_121, x_o_bestTest_123, x_o_bestTest_126, x_o_bestTest_129, x_o_bestTest_132, x_o_bestTest_133, x_o_bestTest_135, x_o_bestTest_138, x_o_bestTest_140, x_o_bestTest_142, x_o_bestTest_143, x_o_bestTest_144, x_o_bestTest_147, x_o_bestTest_149, x_o_bestTest_150, x_o_bestTest_152, x_o_bestTest_154, x_o_bestTest_155, x_o_bestTest_158, x_o_bestTest_160, x_o_bestTest_162, x_o_bestTest_164, x_o_bestTest_165, x_o_bestTest_168, x_o_bestTest_171, x_o_bestTest_172, q_lt, h4, if_false, nI_or, eA, nI_dif, p1, if_true, sp_bitCount, XK_s, s0, true_and, c5, q_eq, eq_true p2, hkq, b01_eq0, eq_true p3, not_true_eq_false, not_false_eq_true, hto, c_ge, c_le, el, q_lle, Nat.zero_le, mo_le, p5, q_add]
              exact h8 hs _ _ _
        · have hq : ¬ shQ G (askB G (G 36) + f) = true := by rw [eS]; simp [p3]
          rw [sc_no hq] at h8
          rw [x_o_bestTest_87]
          simp (disch := first | assumption | omega) only [x_o_bestTest_0, x_o_bestTest_1, x_o_bestTest_2, x_o_bestTest_3, x_o_bestTest_4, x_o_bestTest_5, x_o_bestTest_7, x_o_bestTest_8, x_o_bestTest_11, x_o_bestTest_14, x_o_bestTest_15, x_o_bestTest_18, x_o_bestTest_19, x_o_bestTest_20, x_o_bestTest_23, x_o_bestTest_24, x_o_bestTest_27, x_o_bestTest_28, x_o_bestTest_29, x_o_bestTest_30, x_o_bestTest_31, x_o_bestTest_32, x_o_bestTest_33, x_o_bestTest_34, x_o_bestTest_37, x_o_bestTest_38, x_o_bestTest_39, x_o_bestTest_42, x_o_bestTest_45, x_o_bestTest_46, x_o_bestTest_47, x_o_bestTest_48, x_o_bestTest_49, x_o_bestTest_50, x_o_bestTest_51, x_o_bestTest_52, x_o_bestTest_55, x_o_bestTest_56, x_o_bestTest_57, x_o_bestTest_60, x_o_bestTest_61, x_o_bestTest_64, x_o_bestTest_65, x_o_bestTest_66, x_o_bestTest_69, x_o_bestTest_70, x_o_bestTest_73, x_o_bestTest_76, x_o_bestTest_78, x_o_bestTest_79, x_o_bestTest_82, x_o_bestTest_84, x_o_bestTest_85, x_o_bestTest_89, x_o_bestTest_90, x_o_bestTest_93, x_o_bestTest_94, x_o_bestTest_96, x_o_bestTest_97, x_o_bestTest_99, x_o_bestTest_101, x_o_bestTest_102, x_o_bestTest_103, x_o_bestTest_104, x_o_bestTest_105, x_o_bestTest_108, x_o_bestTest_110, x_o_bestTest_113, x_o_bestTest_114, x_o_bestTest_117, x_o_bestTest_120, x_o_bestTest_121, x_o_bestTest_123, x_o_bestTest_126, x_o_bestTest_129, x_o_bestTest_132, x_o_bestTest_133, x_o_bestTest_135, x_o_bestTest_138, x_o_bestTest_140, x_o_bestTest_142, x_o_bestTest_143, x_o_bestTest_144, x_o_bestTest_147, x_o_bestTest_149, x_o_bestTest_150, x_o_bestTest_152, x_o_bestTest_154, x_o_bestTest_155, x_o_bestTest_158, x_o_bestTest_160, x_o_bestTest_162, x_o_bestTest_164, x_o_bestTest_165, x_o_bestTest_168, x_o_bestTest_171, x_o_bestTest_172, q_lt, h4, if_false, nI_or, eA, nI_dif, p1, if_true, sp_bitCount, XK_s, s0, true_and, c5, q_eq, eq_true p2, hkq, b01_eq0, eq_false p3, not_false_eq_true, q_add]
          exact h8 hs _ _ _
      · have hq : ¬ shQ G (askB G (G 36) + f) = true := by rw [eS]; simp [p2]
        rw [sc_no hq] at h8
        rw [x_o_bestTest_87]
        simp (disch := first | assumption | omega) only [x_o_bestTest_0, x_o_bestTest_1, x_o_bestTest_2, x_o_bestTest_3, x_o_bestTest_4, x_o_bestTest_5, x_o_bestTest_7, x_o_bestTest_8, x_o_bestTest_11, x_o_bestTest_14, x_o_bestTest_15, x_o_bestTest_18, x_o_bestTest_19, x_o_bestTest_20, x_o_bestTest_23, x_o_bestTest_24, x_o_bestTest_27, x_o_bestTest_28, x_o_bestTest_29, x_o_bestTest_30, x_o_bestTest_31, x_o_bestTest_32, x_o_bestTest_33, x_o_bestTest_34, x_o_bestTest_37, x_o_bestTest_38, x_o_bestTest_39, x_o_bestTest_42, x_o_bestTest_45, x_o_bestTest_46, x_o_bestTest_47, x_o_bestTest_48, x_o_bestTest_49, x_o_bestTest_50, x_o_bestTest_51, x_o_bestTest_52, x_o_bestTest_55, x_o_bestTest_56, x_o_bestTest_57, x_o_bestTest_60, x_o_bestTest_61, x_o_bestTest_64, x_o_bestTest_65, x_o_bestTest_66, x_o_bestTest_69, x_o_bestTest_70, x_o_bestTest_73, x_o_bestTest_76, x_o_bestTest_78, x_o_bestTest_79, x_o_bestTest_82, x_o_bestTest_84, x_o_bestTest_85, x_o_bestTest_89, x_o_bestTest_90, x_o_bestTest_93, x_o_bestTest_94, x_o_bestTest_96, x_o_bestTest_97, x_o_bestTest_99, x_o_bestTest_101, x_o_bestTest_102, x_o_bestTest_103, x_o_bestTest_104, x_o_bestTest_105, x_o_bestTest_108, x_o_bestTest_110, x_o_bestTest_113, x_o_bestTest_114, x_o_bestTest_117, x_o_bestTest_120, x_o_bestTest_121, x_o_bestTest_123, x_o_bestTest_126, x_o_bestTest_129, x_o_bestTest_132, x_o_bestTest_133, x_o_bestTest_135, x_o_bestTest_138, x_o_bestTest_140, x_o_bestTest_142, x_o_bestTest_143, x_o_bestTest_144, x_o_bestTest_147, x_o_bestTest_149, x_o_bestTest_150, x_o_bestTest_152, x_o_bestTest_154, x_o_bestTest_155, x_o_bestTest_158, x_o_bestTest_160, x_o_bestTest_162, x_o_bestTest_164, x_o_bestTest_165, x_o_bestTest_168, x_o_bestTest_171, x_o_bestTest_172, q_lt, h4, if_false, nI_or, eA, nI_dif, p1, if_true, sp_bitCount, XK_s, s0, true_and, c5, q_eq, eq_false p2, q_add]
        exact h8 hs _ _ _
    · have hq := sh_not hB (f := f) (by omega) p1
      have hd := dif_lt (a := f) (s := frM G) (by omega)
      rw [sc_no hq] at h8
      rw [x_o_bestTest_87]
      simp (disch := first | assumption | omega) only [x_o_bestTest_0, x_o_bestTest_1, x_o_bestTest_2, x_o_bestTest_3, x_o_bestTest_4, x_o_bestTest_5, x_o_bestTest_7, x_o_bestTest_8, x_o_bestTest_11, x_o_bestTest_14, x_o_bestTest_15, x_o_bestTest_18, x_o_bestTest_19, x_o_bestTest_20, x_o_bestTest_23, x_o_bestTest_24, x_o_bestTest_27, x_o_bestTest_28, x_o_bestTest_29, x_o_bestTest_30, x_o_bestTest_31, x_o_bestTest_32, x_o_bestTest_33, x_o_bestTest_34, x_o_bestTest_37, x_o_bestTest_38, x_o_bestTest_39, x_o_bestTest_42, x_o_bestTest_45, x_o_bestTest_46, x_o_bestTest_47, x_o_bestTest_48, x_o_bestTest_49, x_o_bestTest_50, x_o_bestTest_51, x_o_bestTest_52, x_o_bestTest_55, x_o_bestTest_56, x_o_bestTest_57, x_o_bestTest_60, x_o_bestTest_61, x_o_bestTest_64, x_o_bestTest_65, x_o_bestTest_66, x_o_bestTest_69, x_o_bestTest_70, x_o_bestTest_73, x_o_bestTest_76, x_o_bestTest_78, x_o_bestTest_79, x_o_bestTest_82, x_o_bestTest_84, x_o_bestTest_85, x_o_bestTest_89, x_o_bestTest_90, x_o_bestTest_93, x_o_bestTest_94, x_o_bestTest_96, x_o_bestTest_97, x_o_bestTest_99, x_o_bestTest_101, x_o_bestTest_102, x_o_bestTest_103, x_o_bestTest_104, x_o_bestTest_105, x_o_bestTest_108, x_o_bestTest_110, x_o_bestTest_113, x_o_bestTest_114, x_o_bestTest_117, x_o_bestTest_120, x_o_bestTest_121, x_o_bestTest_123, x_o_bestTest_126, x_o_bestTest_129, x_o_bestTest_132, x_o_bestTest_133, x_o_bestTest_135, x_o_bestTest_138, x_o_bestTest_140, x_o_bestTest_142, x_o_bestTest_143, x_o_bestTest_144, x_o_bestTest_147, x_o_bestTest_149, x_o_bestTest_150, x_o_bestTest_152, x_o_bestTest_154, x_o_bestTest_155, x_o_bestTest_158, x_o_bestTest_160, x_o_bestTest_162, x_o_bestTest_164, x_o_bestTest_165, x_o_bestTest_168, x_o_bestTest_171, x_o_bestTest_172, q_lt, h4, if_false, nI_or, nI_dif, qn0, p1, q_add]
      exact h8 hs _ _ _
theorem sp_o_bestTest (hb : isB B) (hC : CR B G iv jv) (hB : IB G) (hD : DS G) (hQ : ∀ jv', (∀ q k, q ≠ B + 11 → jv' q k = jv q k) → (∀ i, i < G 29 → jv' (B + 11) i = lo (Tn G i)) → Q (some (.int (shV G))) (mk iv jv')) : XM (d + 3) Yo_bestTest [.ref B] iv jv Q := by
  obtain ⟨⟨c4, c5, c6, c7, c9, c11, c14⟩, cp, ca, cb, cw, ck, cm, ci, ch⟩ := id hC
  obtain ⟨s0, s1, s2, s3, s4, s5, s6, s7, s8, s9, s10, s11⟩ := sB hb
  have b1 := hB.1
  have hl0 := sc_lo hB hD _ (Nat.le_refl _)
  simp (disch := first | assumption | omega) only [e_o_bestTest, x_o_bestTest_0, x_o_bestTest_1, x_o_bestTest_2, x_o_bestTest_3, x_o_bestTest_4, x_o_bestTest_5, x_o_bestTest_7, x_o_bestTest_8, x_o_bestTest_11, x_o_bestTest_14, x_o_bestTest_15, x_o_bestTest_18, x_o_bestTest_19, x_o_bestTest_20, x_o_bestTest_23, x_o_bestTest_24, x_o_bestTest_27, x_o_bestTest_28, x_o_bestTest_29, x_o_bestTest_30, x_o_bestTest_31, x_o_bestTest_32, x_o_bestTest_33, x_o_bestTest_34, x_o_bestTest_37, x_o_bestTest_38, x_o_bestTest_39, x_o_bestTest_42, x_o_bestTest_45, x_o_bestTest_46, x_o_bestTest_47, x_o_bestTest_48, x_o_bestTest_49, x_o_bestTest_50, x_o_bestTest_51, x_o_bestTest_52, x_o_bestTest_55, x_o_bestTest_56, x_o_bestTest_57, x_o_bestTest_60, x_o_bestTest_61, x_o_bestTest_64, x_o_bestTest_65, x_o_bestTest_66, x_o_bestTest_69, x_o_bestTest_70, x_o_bestTest_73, x_o_bestTest_76, x_o_bestTest_78, x_o_bestTest_79, x_o_bestTest_82, x_o_bestTest_84, x_o_bestTest_85, x_o_bestTest_89, x_o_bestTest_90, x_o_bestTest_93, x_o_bestTest_94, x_o_bestTest_96, x_o_bestTest_97, x_o_bestTest_99, x_o_bestTest_101, x_o_bestTest_102, x_o_bestTest_103, x_o_bestTest_104, x_o_bestTest_105, x_o_bestTest_108, x_o_bestTest_110, x_o_bestTest_113, x_o_bestTest_114, x_o_bestTest_117, x_o_bestTest_120, x_o_bestTest_121, x_o_bestTest_123, x_o_bestTest_126, x_o_bestTest_129, x_o_bestTest_132, x_o_bestTest_133, x_o_bestTest_135, x_o_bestTest_138, x_o_bestTest_140, x_o_bestTest_142, x_o_bestTest_143, x_o_bestTest_144, x_o_bestTest_147, x_o_bestTest_149, x_o_bestTest_150, x_o_bestTest_152, x_o_bestTest_154, x_o_bestTest_155, x_o_bestTest_158, x_o_bestTest_160, x_o_bestTest_162, x_o_bestTest_164, x_o_bestTest_165, x_o_bestTest_168, x_o_bestTest_171, x_o_bestTest_172]
  refine lp_o_best1 hb hC hB (fun jv' h1 h2 => ?_) (G 29) 0 (by omega) jv (fun _ _ _ => rfl) (fun j hj => absurd hj (by omega))
  have hC1 := CR_11 hC h1
  have key := fun u7 u8 u9 => lp_o_best2 (d := d) (Q := Q) hb hC1 hB hD h2 (frM G + 1) 0 (by omega) (by rw [Nat.add_zero, hl0]) u7 u8 u9
  simp only [Nat.add_zero, hl0] at key
  rw [wk_eq hB hD, x_o_bestTest_6]
  simp (disch := first | assumption | omega) only [x_o_bestTest_0, x_o_bestTest_1, x_o_bestTest_2, x_o_bestTest_3, x_o_bestTest_4, x_o_bestTest_5, x_o_bestTest_7, x_o_bestTest_8, x_o_bestTest_11, x_o_bestTest_14, x_o_bestTest_15, x_o_bestTest_18, x_o_bestTest_19, x_o_bestTest_20, x_o_bestTest_23, x_o_bestTest_24, x_o_bestTest_27, x_o_bestTest_28, x_o_bestTest_29, x_o_bestTest_30, x_o_bestTest_31, x_o_bestTest_32, x_o_bestTest_33, x_o_bestTest_34, x_o_bestTest_37, x_o_bestTest_38, x_o_bestTest_39, x_o_bestTest_42, x_o_bestTest_45, x_o_bestTest_46, x_o_bestTest_47, x_o_bestTest_48, x_o_bestTest_49, x_o_bestTest_50, x_o_bestTest_51, x_o_bestTest_52, x_o_bestTest_55, x_o_bestTest_56, x_o_bestTest_57, x_o_bestTest_60, x_o_bestTest_61, x_o_bestTest_64, x_o_bestTest_65, x_o_bestTest_66, x_o_bestTest_69, x_o_bestTest_70, x_o_bestTest_73, x_o_bestTest_76, x_o_bestTest_78, x_o_bestTest_79, x_o_bestTest_82, x_o_bestTest_84, x_o_bestTest_85, x_o_bestTest_89, x_o_bestTest_90, x_o_bestTest_93, x_o_bestTest_94, x_o_bestTest_96, x_o_bestTest_97, x_o_bestTest_99, x_o_bestTest_101, x_o_bestTest_102, x_o_bestTest_103, x_o_bestTest_104, x_o_bestTest_105, x_o_bestTest_108, x_o_bestTest_110, x_o_bestTest_113, x_o_bestTest_114, x_o_bestTest_117, x_o_bestTest_120, x_o_bestTest_121, x_o_bestTest_123, x_o_bestTest_126, x_o_bestTest_129, x_o_bestTest_132, x_o_bestTest_133, x_o_bestTest_135, x_o_bestTest_138, x_o_bestTest_140, x_o_bestTest_142, x_o_bestTest_143, x_o_bestTest_144, x_o_bestTest_147, x_o_bestTest_149, x_o_bestTest_150, x_o_bestTest_152, x_o_bestTest_154, x_o_bestTest_155, x_o_bestTest_158, x_o_bestTest_160, x_o_bestTest_162, x_o_bestTest_164, x_o_bestTest_165, x_o_bestTest_168, x_o_bestTest_171, x_o_bestTest_172, s0, true_and, c9, q_le, Nat.le_refl, if_true]
  refine (key _ _ _).mpr (hQ jv' h1 h2)
end BEST5
