section INIT2
variable {d n nm : Nat} {hp : mH} {Q : Option Value → mH → Prop} {q B : Nat}
def mfi (hp : mH) (q lo hi : Nat) (v : Value) : mH := fun a k => if a = q ∧ lo ≤ k ∧ k < hi then v else hp a k
theorem mfi_n {hp : mH} {q lo hi a j : Nat} {v : Value} (h : ¬ (a = q ∧ lo ≤ j ∧ j < hi)) : mfi hp q lo hi v a j = hp a j := if_neg h
theorem mfi_a {hp : mH} {q lo hi j : Nat} {v : Value} (h1 : lo ≤ j) (h2 : j < hi) : mfi hp q lo hi v q j = v := if_pos ⟨rfl, h1, h2⟩
theorem mfi_e (hp : mH) (q hi : Nat) (v : Value) : mfi hp q hi hi v = hp := by
  funext a k
  exact mfi_n (by omega)
theorem mfi_s {hp : mH} {q l hi : Nat} {v : Value} (h : l < hi) : mfi (mup hp q l v) q (l + 1) hi v = mfi hp q l hi v := by
  funext a k
  by_cases e : a = q ∧ l ≤ k ∧ k < hi
  · obtain ⟨rfl, e1, e2⟩ := e
    rw [mfi_a e1 e2]
    by_cases e3 : k = l
    · subst e3
      rw [mfi_n (by omega), mup_a]
    · rw [mfi_a (by omega) e2]
  · rw [mfi_n e, mfi_n (by omega), mup_n (by omega)]
theorem lo_1 (h : shp B = (1, 17)) (h1 : shp (B + 1) = (16, 9)) (hn : B + 1 < n) : ∀ m l, l + m = 9 → ∀ hp : mH, hp B 0 = .ref (B + 1) → T (TM d) none Yo_init nm 121 [.ref B, .int (nI l)] [] hp n Q = T (TM d) none Yo_init nm 121 [.ref B, .int (nI 9)] [] (mfi hp (B + 1) l 9 (.int (nI 1))) n Q := by
  intro m
  induction m with
  | zero =>
    intro l hl hp h0
    obtain rfl : l = 9 := by omega
    rw [mfi_e]
  | succ m ih =>
    intro l hl hp h0
    have h9 : ¬ 9 ≤ l := by omega
    have h8 := ih (l + 1) (by omega) (mup hp (B + 1) l (.int (nI 1))) (by rw [mup_n (by omega)]; exact h0)
    rw [mfi_s (by omega)] at h8
    rw [← h8, x_o_init_121]
    simp (disch := first | assumption | omega) only [x_o_init_122, x_o_init_124, x_o_init_127, x_o_init_128, x_o_init_131, x_o_init_132, x_o_init_133, x_o_init_134, x_o_init_137, q_le, h9, if_false, h, h1, h0, ltT, q_in, q_tn, true_and, q_add]
theorem lo_2 (h : shp B = (1, 17)) (h1 : shp (B + 3) = (16, 3)) (hn : B + 3 < n) : ∀ m l, l + m = 3 → ∀ hp : mH, hp B 2 = .ref (B + 3) → T (TM d) none Yo_init nm 142 [.ref B, .int (nI l)] [] hp n Q = T (TM d) none Yo_init nm 142 [.ref B, .int (nI 3)] [] (mfi hp (B + 3) l 3 (.int (nI 8))) n Q := by
  intro m
  induction m with
  | zero =>
    intro l hl hp h0
    obtain rfl : l = 3 := by omega
    rw [mfi_e]
  | succ m ih =>
    intro l hl hp h0
    have h9 : ¬ 3 ≤ l := by omega
    have h8 := ih (l + 1) (by omega) (mup hp (B + 3) l (.int (nI 8))) (by rw [mup_n (by omega)]; exact h0)
    rw [mfi_s (by omega)] at h8
    rw [← h8, x_o_init_142]
    simp (disch := first | assumption | omega) only [x_o_init_143, x_o_init_144, x_o_init_147, x_o_init_148, x_o_init_151, x_o_init_152, x_o_init_154, x_o_init_155, x_o_init_158, q_le, h9, if_false, h, h1, h0, ltT, q_in, q_tn, true_and, q_add]
theorem lo_3 (hb : isB B) (h8 : hp B 8 = .ref (B + 5)) (hQ : ∀ hp', (∀ a k, a < B + 12 → a ≠ B + 5 → hp' a k = hp a k) → (∀ j, j < 8 → hp' (B + 5) j = .ref (B + 12 + 3 * j)) → (∀ a k, B + 12 ≤ a → a < B + 36 → k < (shp a).2 → hp' a k = tg a k) → Q none hp') : ∀ m i, i + m = 8 → ∀ hp1, (∀ a k, a < B + 12 → a ≠ B + 5 → hp1 a k = hp a k) → (∀ j, j < i → hp1 (B + 5) j = .ref (B + 12 + 3 * j)) → (∀ a k, B + 12 ≤ a → a < B + 12 + 3 * i → k < (shp a).2 → hp1 a k = tg a k) → T (TM (d + 1)) none Yo_init (B + 36) 163 [.ref B, .int (nI i)] [] hp1 (B + 12 + 3 * i) Q := by
  obtain ⟨s0, s1, s2, s3, s4, s5, s6, s7, s8, s9, s10, s11⟩ := sB hb
  have hlb := lt_B hb
  intro m
  induction m with
  | zero =>
    intro i hi hp1 f1 f2 f3
    obtain rfl : i = 8 := by omega
    rw [x_o_init_163]
    simp (disch := first | assumption | omega) only [x_o_init_0, x_o_init_1, x_o_init_4, x_o_init_5, x_o_init_7, x_o_init_9, x_o_init_12, x_o_init_13, x_o_init_14, x_o_init_16, x_o_init_19, x_o_init_20, x_o_init_21, x_o_init_23, x_o_init_26, x_o_init_27, x_o_init_28, x_o_init_30, x_o_init_33, x_o_init_34, x_o_init_35, x_o_init_38, x_o_init_39, x_o_init_40, x_o_init_43, x_o_init_44, x_o_init_45, x_o_init_48, x_o_init_49, x_o_init_50, x_o_init_53, x_o_init_54, x_o_init_56, x_o_init_59, x_o_init_62, x_o_init_63, x_o_init_64, x_o_init_67, x_o_init_68, x_o_init_69, x_o_init_71, x_o_init_74, x_o_init_75, x_o_init_76, x_o_init_79, x_o_init_80, x_o_init_83, x_o_init_84, x_o_init_87, x_o_init_90, x_o_init_91, x_o_init_93, x_o_init_95, x_o_init_98, x_o_init_99, x_o_init_100, x_o_init_103, x_o_init_104, x_o_init_106, x_o_init_108, x_o_init_111, x_o_init_112, x_o_init_114, x_o_init_116, x_o_init_119, x_o_init_120, x_o_init_122, x_o_init_124, x_o_init_127, x_o_init_128, x_o_init_131, x_o_init_132, x_o_init_133, x_o_init_134, x_o_init_137, x_o_init_140, x_o_init_141, x_o_init_143, x_o_init_144, x_o_init_147, x_o_init_148, x_o_init_151, x_o_init_152, x_o_init_154, x_o_init_155, x_o_init_158, x_o_init_161, x_o_init_162, x_o_init_164, x_o_init_166, x_o_init_169, x_o_init_170, x_o_init_173, x_o_init_174, x_o_init_177, x_o_init_178, x_o_init_181, x_o_init_182, x_o_init_185, x_o_init_188, q_le, Nat.le_refl, if_true, eqT, true_and]
    exact hQ hp1 f1 f2 (fun a k h1 h2 h3 => f3 a k h1 (by omega) h3)
  | succ m ih =>
    intro i hi hp1 f1 f2 f3
    have h9 : ¬ 8 ≤ i := by omega
    obtain ⟨t0, t1, t2⟩ := sI hb (show i < 8 from by omega)
    have g8 : hp1 B 8 = .ref (B + 5) := (f1 B 8 (by omega) (by omega)).trans h8
    have hbs : B = 1 ∨ B = 37 ∨ B = 73 := hb
    rw [x_o_init_163]
    simp (disch := first | assumption | omega) only [x_o_init_0, x_o_init_1, x_o_init_4, x_o_init_5, x_o_init_7, x_o_init_9, x_o_init_12, x_o_init_13, x_o_init_14, x_o_init_16, x_o_init_19, x_o_init_20, x_o_init_21, x_o_init_23, x_o_init_26, x_o_init_27, x_o_init_28, x_o_init_30, x_o_init_33, x_o_init_34, x_o_init_35, x_o_init_38, x_o_init_39, x_o_init_40, x_o_init_43, x_o_init_44, x_o_init_45, x_o_init_48, x_o_init_49, x_o_init_50, x_o_init_53, x_o_init_54, x_o_init_56, x_o_init_59, x_o_init_62, x_o_init_63, x_o_init_64, x_o_init_67, x_o_init_68, x_o_init_69, x_o_init_71, x_o_init_74, x_o_init_75, x_o_init_76, x_o_init_79, x_o_init_80, x_o_init_83, x_o_init_84, x_o_init_87, x_o_init_90, x_o_init_91, x_o_init_93, x_o_init_95, x_o_init_98, x_o_init_99, x_o_init_100, x_o_init_103, x_o_init_104, x_o_init_106, x_o_init_108, x_o_init_111, x_o_init_112, x_o_init_114, x_o_init_116, x_o_init_119, x_o_init_120, x_o_init_122, x_o_init_124, x_o_init_127, x_o_init_128, x_o_init_131, x_o_init_132, x_o_init_133, x_o_init_134, x_o_init_137, x_o_init_140, x_o_init_141, x_o_init_143, x_o_init_144, x_o_init_147, x_o_init_148, x_o_init_151, x_o_init_152, x_o_init_154, x_o_init_155, x_o_init_158, x_o_init_161, x_o_init_162, x_o_init_164, x_o_init_166, x_o_init_169, x_o_init_170, x_o_init_173, x_o_init_174, x_o_init_177, x_o_init_178, x_o_init_181, x_o_init_182, x_o_init_185, x_o_init_188, q_le, h9, if_false, s0, g8, ltT, leT, t0, true_and]
    refine sp_i_init (d := d) t0 t1 t2 (by omega) (fun k => i_16 t1 (by omega) (by omega) (by omega) k) (fun k => i_16 t2 (by omega) (by omega) (by omega) k) (fun hp2 g0 g1 => ?_)
    have e3 : B + 12 + 3 * i + 1 + 2 = B + 12 + 3 * (i + 1) := by omega
    have e18 : (((18 : Nat) = 18 ∧ True) ∨ ((18 : Nat) = 19 ∧ False)) = True := by simp
    rw [TK_n, e3]
    simp (disch := first | assumption | omega) only [x_o_init_0, x_o_init_1, x_o_init_4, x_o_init_5, x_o_init_7, x_o_init_9, x_o_init_12, x_o_init_13, x_o_init_14, x_o_init_16, x_o_init_19, x_o_init_20, x_o_init_21, x_o_init_23, x_o_init_26, x_o_init_27, x_o_init_28, x_o_init_30, x_o_init_33, x_o_init_34, x_o_init_35, x_o_init_38, x_o_init_39, x_o_init_40, x_o_init_43, x_o_init_44, x_o_init_45, x_o_init_48, x_o_init_49, x_o_init_50, x_o_init_53, x_o_init_54, x_o_init_56, x_o_init_59, x_o_init_62, x_o_init_63, x_o_init_64, x_o_init_67, x_o_init_68, x_o_init_69, x_o_init_71, x_o_init_74, x_o_init_75, x_o_init_76, x_o_init_79, x_o_init_80, x_o_init_83, x_o_init_84, x_o_init_87, x_o_init_90, x_o_init_91, x_o_init_93, x_o_init_95, x_o_init_98, x_o_init_99, x_o_init_100, x_o_init_103, x_o_init_104, x_o_init_106, x_o_init_108, x_o_init_111, x_o_init_112, x_o_init_114, x_o_init_116, x_o_init_119, x_o_init_120, x_o_init_122, x_o_init_124, x_o_init_127, x_o_init_128, x_o_init_131, x_o_init_132, x_o_init_133, x_o_init_134, x_o_init_137, x_o_init_140, x_o_init_141, x_o_init_143, x_o_init_144, x_o_init_147, x_o_init_148, x_o_init_151, x_o_init_152, x_o_init_154, x_o_init_155, x_o_init_158, x_o_init_161, x_o_init_162, x_o_init_164, x_o_init_166, x_o_init_169, x_o_init_170, x_o_init_173, x_o_init_174, x_o_init_177, x_o_init_178, x_o_init_181, x_o_init_182, x_o_init_185, x_o_init_188, s5, t0, ltT, q_in, q_tn, q_add, true_and, true_or]
    refine ih (i + 1) (by omega) _ (fun a k ha hne => ?_) (fun j hj => ?_) (fun a k ha1 ha2 hk => ?_)
    · rw [mup_n (by omega), g0 a k (by omega), mrw_n (by omega)]; exact f1 a k ha hne
    · by_cases ej : j = i
      · subst ej; rw [mup_a]
      · rw [mup_n (by omega), g0 _ _ (by omega), mrw_n (by omega)]; exact f2 j (by omega)
    · rw [mup_n (by omega)]
      by_cases ea : a < B + 12 + 3 * i
      · rw [g0 _ _ ea, mrw_n (by omega)]; exact f3 a k ha1 ea hk
      · exact g1 a k (by omega) (by omega) hk
end INIT2
