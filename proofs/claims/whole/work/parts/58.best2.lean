section BEST2
variable {d : Nat} {iv : mI} {jv : mJ} {Q : Option Value → mH → Prop} {G : Nat → Nat} {B : Nat}
theorem WR_ne {w : Nat} {f : Nat → Nat} {jv jv' : mJ} (h : WR w f jv) (h1 : ∀ k, jv' w k = jv w k) (h2 : ∀ k, jv' (w + 1) k = jv (w + 1) k) : WR w f jv' := by
  obtain ⟨r, a, b, c⟩ := h
  exact ⟨fun l hl => (h2 l).trans (r l hl), (h1 1).trans a, (h1 2).trans b, (h1 3).trans c⟩
theorem CR_11 {jv' : mJ} (hC : CR B G iv jv) (h : ∀ q k, q ≠ B + 11 → jv' q k = jv q k) : CR B G iv jv' := by
  obtain ⟨cf, cp, ca, cb, cw, ck, cm, ci, ch⟩ := hC
  exact ⟨cf, cp, ca, cb, WR_ne cw (fun k => h _ _ (by omega)) (fun k => h _ _ (by omega)), ck, cm, ci, ch⟩
/-- the bits of those i below n for which p holds -/
def bsS (p : Nat → Bool) : Nat → Nat
  | 0 => 0
  | n + 1 => if p n = true then bsS p n ||| 2 ^ n else bsS p n
theorem bsS_s (p : Nat → Bool) (n : Nat) : bsS p (n + 1) = if p n = true then bsS p n ||| 2 ^ n else bsS p n := rfl
theorem bsS_lt (p : Nat → Bool) : ∀ n, bsS p n < 2 ^ n
  | 0 => by show 0 < 1; decide
  | n + 1 => by
    have h1 := bsS_lt p n
    have h2 : 2 ^ (n + 1) = 2 ^ n * 2 := Nat.pow_succ 2 n
    rw [bsS_s]
    split
    · exact Nat.or_lt_two_pow (by omega) (by omega)
    · omega
theorem bsS_bit (p : Nat → Bool) (i : Nat) : ∀ n, (bsS p n).testBit i = (decide (i < n) && p i)
  | 0 => by show (0 : Nat).testBit i = _; simp
  | n + 1 => by
    have ih := bsS_bit p i n
    rw [bsS_s]
    by_cases e : i = n
    · subst e
      cases h : p i
      · rw [if_neg (by decide), ih]; simp
      · rw [if_pos rfl, Nat.testBit_or, ih, Nat.testBit_two_pow]; simp
    · have e' : ¬ n = i := fun z => e z.symm
      have e2 : decide (i < n + 1) = decide (i < n) := by
        apply decide_eq_decide.mpr; omega
      cases h : p n
      · rw [if_neg (by decide), ih, e2]
      · rw [if_pos rfl, Nat.testBit_or, ih, Nat.testBit_two_pow, e2]; simp [e']
def wkP (G : Nat → Nat) (i : Nat) : Bool := (askB G (G 36)).testBit i
theorem lp_o_best1 (hb : isB B) (hC : CR B G iv jv) (hB : IB G) (hQ : ∀ jv', (∀ q k, q ≠ B + 11 → jv' q k = jv q k) → (∀ i, i < G 29 → jv' (B + 11) i = lo (Tn G i)) → XT (d + 2) Yo_bestTest 6 [.ref B, .int (nI (bsS (wkP G) (G 29))), .int (nI (bsS (frB G) (G 29))), .int (nI (G 29)), mU, mU, mU, mU, mU, mU] [] iv jv' Q) : ∀ n i, i + n = G 29 → ∀ jv1, (∀ q k, q ≠ B + 11 → jv1 q k = jv q k) → (∀ j, j < i → jv1 (B + 11) j = lo (Tn G j)) → XT (d + 2) Yo_bestTest 6 [.ref B, .int (nI (bsS (wkP G) i)), .int (nI (bsS (frB G) i)), .int (nI i), mU, mU, mU, mU, mU, mU] [] iv jv1 Q := by
  obtain ⟨s0, s1, s2, s3, s4, s5, s6, s7, s8, s9, s10, s11⟩ := sB hb
  have b1 := hB.1
  have e18 : ((18 : Nat) = 18 ∨ (18 : Nat) = 19) = True := by simp
  intro n
  induction n with
  | zero =>
    intro i hi jv1 h1 h2
    obtain rfl : i = G 29 := by omega
    exact hQ jv1 h1 h2
  | succ n ih =>
    intro i hi jv1 h1 h2
    have hC1 := CR_11 hC h1
    obtain ⟨⟨c4, c5, c6, c7, c9, c11, c14⟩, cp, ca, cb, cw, ck, cm, ci, ch⟩ := id hC1
    have h4 : ¬ G 29 ≤ i := by omega
    have hi8 : i < 8 := by omega
    obtain ⟨t0, t1, t2⟩ := sI hb hi8
    obtain ⟨⟨f0, f1, f2, f3, f4, f5, f6, f7⟩, fr, ft⟩ := ci i (by omega)
    have hfree := fun (Q : Option Value → mH → Prop) => sp_free (d := d + 1) (iv := iv) (jv := jv1) (Q := Q) (i := i) hb hC1 hB (by omega)
    have hinf := fun (Q : Option Value → mH → Prop) => sp_inf (d := d) (iv := iv) (jv := jv1) (Q := Q) (i := i) hb hC1 hB (by omega)
    have hrep := rep_m hB i
    have a1 := bsS_lt (wkP G) i
    have a2 := bsS_lt (frB G) i
    have a3 := pow_le (k := i) (by omega)
    have o1 := bit_or (bsS (wkP G) i) (by omega) i hi8
    have o2 := bit_or (bsS (frB G) i) (by omega) i hi8
    have h8 := ih (i + 1) (by omega) (upj jv1 (B + 11) i (lo (Tn G i))) (fun q k hq => by rw [upj_ne hq]; exact h1 q k hq) (fun j hj => by
      by_cases e : j = i
      · subst e; rw [upj_at]
      · rw [upj_nk e]; exact h2 j (by omega))
    rw [bsS_s, bsS_s] at h8
    rw [x_o_bestTest_6]
    have pw : wkP G i = (askB G (G 36)).testBit i := rfl
    by_cases p1 : (askB G (G 36)).testBit i = true
    · have p1' : ¬ aoR G i (G 36) 0 = -1 := fun h => hrep.mp h p1
      have pf : ¬ frB G i = true := by unfold frB; simp [p1]
      rw [if_pos (pw.trans p1), if_neg pf] at h8
      simp (disch := first | assumption | omega) only [x_o_bestTest_0, x_o_bestTest_1, x_o_bestTest_2, x_o_bestTest_3, x_o_bestTest_4, x_o_bestTest_5, x_o_bestTest_7, x_o_bestTest_8, x_o_bestTest_11, x_o_bestTest_14, x_o_bestTest_15, x_o_bestTest_18, x_o_bestTest_19, x_o_bestTest_20, x_o_bestTest_23, x_o_bestTest_24, x_o_bestTest_27, x_o_bestTest_28, x_o_bestTest_29, x_o_bestTest_30, x_o_bestTest_31, x_o_bestTest_32, x_o_bestTest_33, x_o_bestTest_34, x_o_bestTest_37, x_o_bestTest_38, x_o_bestTest_39, x_o_bestTest_42, x_o_bestTest_45, x_o_bestTest_46, x_o_bestTest_47, x_o_bestTest_48, x_o_bestTest_49, x_o_bestTest_50, x_o_bestTest_51, x_o_bestTest_52, x_o_bestTest_55, x_o_bestTest_56, x_o_bestTest_57, x_o_bestTest_60, x_o_bestTest_61, x_o_bestTest_64, x_o_bestTest_65, x_o_bestTest_66, x_o_bestTest_69, x_o_bestTest_70, x_o_bestTest_73, x_o_bestTest_76, x_o_bestTest_78, x_o_bestTest_79, x_o_bestTest_82, x_o_bestTest_84, x_o_bestTest_85, x_o_bestTest_89, x_o_bestTest_90, x_o_bestTest_93, x_o_bestTest_94, x_o_bestTest_96, x_o_bestTest_97, x_o_bestTest_99, x_o_bestTest_101, x_o_bestTest_102, x_o_bestTest_103, x_o_bestTest_104, x_o_bestTest_105, x_o_bestTest_108, x_o_bestTest_110, x_o_bestTest_113, x_o_bestTest_114, x_o_bestTest_117, x_o_bestTest_120, x_o_bestTest_121, x_o_bestTest_123, x_o_bestTest_126, x_o_bestTest_129, x_o_bestTest_132, x_o_bestTest_133, x_o_bestTest_135, x_o_bestTest_138, x_o_bestTest_140, x_o_bestTest_142, x_o_bestTest_143, x_o_bestTest_144, x_o_bestTest_147, x_o_bestTest_149, x_o_bestTest_150, x_o_bestTest_152, x_o_bestTest_154, x_o_bestTest_155, x_o_bestTest_158, x_o_bestTest_160, x_o_bestTest_162, x_o_bestTest_164, x_o_bestTest_165, x_o_bestTest_168, x_o_bestTest_171, x_o_bestTest_172, s0, s5, s7, s11, e18, true_and, true_or, c9, q_le, h4, if_false, if_true, q_in, q_tn, rI hb, t0, f7, eq_false p1', o1, hfree, XK_s, b01_eq0, eq_false pf, not_false_eq_true, hinf, q_add]
      exact h8
    · have p1' : aoR G i (G 36) 0 = -1 := hrep.mpr p1
      rw [if_neg (show ¬ wkP G i = true from p1)] at h8
      by_cases pf : frB G i = true
      · rw [if_pos pf] at h8
        simp (disch := first | assumption | omega) only [x_o_bestTest_0, x_o_bestTest_1, x_o_bestTest_2, x_o_bestTest_3, x_o_bestTest_4, x_o_bestTest_5, x_o_bestTest_7, x_o_bestTest_8, x_o_bestTest_11, x_o_bestTest_14, x_o_bestTest_15, x_o_bestTest_18, x_o_bestTest_19, x_o_bestTest_20, x_o_bestTest_23, x_o_bestTest_24, x_o_bestTest_27, x_o_bestTest_28, x_o_bestTest_29, x_o_bestTest_30, x_o_bestTest_31, x_o_bestTest_32, x_o_bestTest_33, x_o_bestTest_34, x_o_bestTest_37, x_o_bestTest_38, x_o_bestTest_39, x_o_bestTest_42, x_o_bestTest_45, x_o_bestTest_46, x_o_bestTest_47, x_o_bestTest_48, x_o_bestTest_49, x_o_bestTest_50, x_o_bestTest_51, x_o_bestTest_52, x_o_bestTest_55, x_o_bestTest_56, x_o_bestTest_57, x_o_bestTest_60, x_o_bestTest_61, x_o_bestTest_64, x_o_bestTest_65, x_o_bestTest_66, x_o_bestTest_69, x_o_bestTest_70, x_o_bestTest_73, x_o_bestTest_76, x_o_bestTest_78, x_o_bestTest_79, x_o_bestTest_82, x_o_bestTest_84, x_o_bestTest_85, x_o_bestTest_89, x_o_bestTest_90, x_o_bestTest_93, x_o_bestTest_94, x_o_bestTest_96, x_o_bestTest_97, x_o_bestTest_99, x_o_bestTest_101, x_o_bestTest_102, x_o_bestTest_103, x_o_bestTest_104, x_o_bestTest_105, x_o_bestTest_108, x_o_bestTest_110, x_o_bestTest_113, x_o_bestTest_114, x_o_bestTest_117, x_o_bestTest_120, x_o_bestTest_121, x_o_bestTest_123, x_o_bestTest_126, x_o_bestTest_129, x_o_bestTest_132, x_o_bestTest_133, x_o_bestTest_135, x_o_bestTest_138, x_o_bestTest_140, x_o_bestTest_142, x_o_bestTest_143, x_o_bestTest_144, x_o_bestTest_147, x_o_bestTest_149, x_o_bestTest_150, x_o_bestTest_152, x_o_bestTest_154, x_o_bestTest_155, x_o_bestTest_158, x_o_bestTest_160, x_o_bestTest_162, x_o_bestTest_164, x_o_bestTest_165, x_o_bestTest_168, x_o_bestTest_171, x_o_bestTest_172, s0, s5, s7, s11, e18, true_and, true_or, c9, q_le, h4, if_false, if_true, q_in, q_tn, rI hb, t0, f7, eq_true p1', o2, hfree, XK_s, b01_eq0, eq_true pf, not_true_eq_false, hinf, q_add]
        exact h8
      · rw [if_neg pf] at h8
        simp (disch := first | assumption | omega) only [x_o_bestTest_0, x_o_bestTest_1, x_o_bestTest_2, x_o_bestTest_3, x_o_bestTest_4, x_o_bestTest_5, x_o_bestTest_7, x_o_bestTest_8, x_o_bestTest_11, x_o_bestTest_14, x_o_bestTest_15, x_o_bestTest_18, x_o_bestTest_19, x_o_bestTest_20, x_o_bestTest_23, x_o_bestTest_24, x_o_bestTest_27, x_o_bestTest_28, x_o_bestTest_29, x_o_bestTest_30, x_o_bestTest_31, x_o_bestTest_32, x_o_bestTest_33, x_o_bestTest_34, x_o_bestTest_37, x_o_bestTest_38, x_o_bestTest_39, x_o_bestTest_42, x_o_bestTest_45, x_o_bestTest_46, x_o_bestTest_47, x_o_bestTest_48, x_o_bestTest_49, x_o_bestTest_50, x_o_bestTest_51, x_o_bestTest_52, x_o_bestTest_55, x_o_bestTest_56, x_o_bestTest_57, x_o_bestTest_60, x_o_bestTest_61, x_o_bestTest_64, x_o_bestTest_65, x_o_bestTest_66, x_o_bestTest_69, x_o_bestTest_70, x_o_bestTest_73, x_o_bestTest_76, x_o_bestTest_78, x_o_bestTest_79, x_o_bestTest_82, x_o_bestTest_84, x_o_bestTest_85, x_o_bestTest_89, x_o_bestTest_90, x_o_bestTest_93, x_o_bestTest_94, x_o_bestTest_96, x_o_bestTest_97, x_o_bestTest_99, x_o_bestTest_101, x_o_bestTest_102, x_o_bestTest_103, x_o_bestTest_104, x_o_bestTest_105, x_o_bestTest_108, x_o_bestTest_110, x_o_bestTest_113, x_o_bestTest_114, x_o_bestTest_117, x_o_bestTest_120, x_o_bestTest_121, x_o_bestTest_123, x_o_bestTest_126, x_o_bestTest_129, x_o_bestTest_132, x_o_bestTest_133, x_o_bestTest_135, x_o_bestTest_138, x_o_bestTest_140, x_o_bestTest_142, x_o_bestTest_143, x_o_bestTest_144, x_o_bestTest_147, x_o_bestTest_149, x_o_bestTest_150, x_o_bestTest_152, x_o_bestTest_154, x_o_bestTest_155, x_o_bestTest_158, x_o_bestTest_160, x_o_bestTest_162, x_o_bestTest_164, x_o_bestTest_165, x_o_bestTest_168, x_o_bestTest_171, x_o_bestTest_172, s0, s5, s7, s11, e18, true_and, true_or, c9, q_le, h4, if_false, if_true, q_in, q_tn, rI hb, t0, f7, eq_true p1', hfree, XK_s, b01_eq0, eq_false pf, not_false_eq_true, hinf, q_add]
        exact h8
end BEST2
