section BEGIN
variable {d : Nat} {iv : mI} {jv : mJ} {Q : Option Value → mH → Prop} {G : Nat → Nat} {f : Nat → Nat}
def hz (z : Int32) : Nat → Int32
  | 0 => z
  | n + 1 => stz (hz z n)
/-- is an ITEM held back, of that many TESTEES -/
def hldB (G : Nat → Nat) (t : Nat) (z : Int32) (i : Nat) : Bool := decide (G (37 + 6 * i + 4) * t < 10 * (G (37 + 6 * i + 5) + 1)) || decide (lot (hz z (i + 1)) 10 < nI (G 31))
def hs (G : Nat → Nat) (t : Nat) (z : Int32) : Nat → Nat
  | 0 => 0
  | n + 1 => if hldB G t z n = true then hs G t z n ||| 2 ^ n else hs G t z n
theorem hs_s (G : Nat → Nat) (t : Nat) (z : Int32) (n : Nat) : hs G t z (n + 1) = if hldB G t z n = true then hs G t z n ||| 2 ^ n else hs G t z n := rfl
theorem hs_lt (G : Nat → Nat) (t : Nat) (z : Int32) : ∀ n, n ≤ 8 → hs G t z n < 2 ^ n
  | 0, _ => by show 0 < 1; decide
  | n + 1, h => by
    have h1 := hs_lt G t z n (by omega)
    have h2 : 2 ^ (n + 1) = 2 ^ n * 2 := Nat.pow_succ 2 n
    rw [hs_s]
    split
    · exact Nat.or_lt_two_pow (by omega) (by omega)
    · omega
def stG (G : Nat → Nat) (n : Nat) : Nat → Nat := fun j => if 9 ≤ j ∧ j < 9 + n then dv G (j - 9) else G j
theorem stG_ne {G : Nat → Nat} {n j : Nat} (h : ¬ (9 ≤ j ∧ j < 9 + n)) : stG G n j = G j := by unfold stG; rw [if_neg h]
theorem stG_at {G : Nat → Nat} {n l : Nat} (h : l < n) : stG G n (9 + l) = dv G l := by
  unfold stG; rw [if_pos (by omega), show 9 + l - 9 = l from by omega]
theorem lp_m_begin1 {z : Int32} (hG : ∀ k, k < 101 → jv 119 k = lN (G k)) : ∀ n l, l + n = 9 → XT d Ym_begin 47 [.ref 118, .int z, .int (nI l), mU, mU] [] iv (stW jv G l) Q = XT d Ym_begin 47 [.ref 118, .int z, .int (nI 9), mU, mU] [] iv (stW jv G 9) Q := by
  intro n
  induction n with
  | zero => intro l hl; obtain rfl : l = 9 := by omega
            rfl
  | succ n ih =>
    intro l hl
    have h4 : ¬ 9 ≤ l := by omega
    have h8 := ih (l + 1) (by omega)
    have g : stW jv G l 119 l = lN (G l) := (stW_ne (by decide)).trans (hG l (by omega))
    have e0 : 0 + l = l := Nat.zero_add l
    rw [← stW_s] at h8
    rw [← h8, x_m_begin_47]
    simp (disch := first | assumption | omega) only [x_m_begin_0, x_m_begin_1, x_m_begin_4, x_m_begin_7, x_m_begin_9, x_m_begin_10, x_m_begin_11, x_m_begin_14, x_m_begin_16, x_m_begin_17, x_m_begin_18, x_m_begin_19, x_m_begin_20, x_m_begin_21, x_m_begin_22, x_m_begin_25, x_m_begin_27, x_m_begin_28, x_m_begin_29, x_m_begin_30, x_m_begin_33, x_m_begin_35, x_m_begin_36, x_m_begin_37, x_m_begin_38, x_m_begin_41, x_m_begin_43, x_m_begin_44, x_m_begin_45, x_m_begin_46, x_m_begin_48, x_m_begin_50, x_m_begin_53, x_m_begin_54, x_m_begin_57, x_m_begin_58, x_m_begin_59, x_m_begin_62, x_m_begin_63, x_m_begin_64, x_m_begin_65, x_m_begin_66, x_m_begin_67, x_m_begin_70, x_m_begin_73, x_m_begin_74, x_m_begin_77, x_m_begin_78, x_m_begin_80, x_m_begin_82, x_m_begin_85, x_m_begin_86, x_m_begin_89, x_m_begin_91, x_m_begin_92, x_m_begin_93, x_m_begin_94, x_m_begin_97, x_m_begin_98, x_m_begin_99, x_m_begin_100, x_m_begin_103, x_m_begin_106, x_m_begin_107, x_m_begin_108, x_m_begin_109, x_m_begin_111, x_m_begin_112, x_m_begin_113, x_m_begin_116, x_m_begin_118, x_m_begin_119, x_m_begin_120, x_m_begin_123, x_m_begin_124, x_m_begin_126, x_m_begin_127, x_m_begin_130, x_m_begin_131, x_m_begin_132, x_m_begin_135, x_m_begin_136, x_m_begin_137, x_m_begin_138, x_m_begin_141, x_m_begin_142, x_m_begin_143, x_m_begin_144, x_m_begin_145, x_m_begin_146, x_m_begin_147, x_m_begin_148, x_m_begin_151, x_m_begin_152, x_m_begin_153, x_m_begin_156, x_m_begin_158, x_m_begin_159, x_m_begin_160, x_m_begin_161, x_m_begin_164, x_m_begin_165, x_m_begin_167, x_m_begin_168, x_m_begin_170, x_m_begin_171, x_m_begin_172, x_m_begin_173, x_m_begin_176, x_m_begin_178, x_m_begin_179, x_m_begin_180, x_m_begin_183, x_m_begin_184, x_m_begin_187, x_m_begin_188, x_m_begin_190, x_m_begin_191, x_m_begin_194, x_m_begin_196, x_m_begin_197, x_m_begin_198, x_m_begin_200, x_m_begin_203, x_m_begin_204, x_m_begin_205, x_m_begin_206, x_m_begin_209, x_m_begin_210, x_m_begin_211, x_m_begin_212, x_m_begin_215, x_m_begin_218, x_m_begin_219, x_m_begin_221, x_m_begin_224, x_m_begin_227, q_le, h4, if_false, q_add, e0, q_in, q_tn, true_and, g]
theorem lp_m_begin2 {z : Int32} (R : Prop) (hR : ∀ jv', (∀ k, k < 101 → jv' 119 k = lN (stG G 9 k)) → (∀ q k, q ≠ 119 → jv' q k = jv q k) → XT d Ym_begin 79 [.ref 118, .int z, .int (nI 9), mU, mU] [] iv jv' Q) (hW : ∀ l, l < 9 → jv 122 l = lN (dv G l)) : ∀ n l, l + n = 9 → ∀ jv1, (∀ k, k < 101 → jv1 119 k = lN (stG G l k)) → (∀ q k, q ≠ 119 → jv1 q k = jv q k) → XT d Ym_begin 79 [.ref 118, .int z, .int (nI l), mU, mU] [] iv jv1 Q := by
  intro n
  induction n with
  | zero => intro l hl jv1 h1 h2; obtain rfl : l = 9 := by omega
            exact hR jv1 h1 h2
  | succ n ih =>
    intro l hl jv1 h1 h2
    have h4 : ¬ 9 ≤ l := by omega
    have g : jv1 122 l = lN (dv G l) := (h2 122 l (by decide)).trans (hW l (by omega))
    rw [x_m_begin_79]
    simp (disch := first | assumption | omega) only [x_m_begin_0, x_m_begin_1, x_m_begin_4, x_m_begin_7, x_m_begin_9, x_m_begin_10, x_m_begin_11, x_m_begin_14, x_m_begin_16, x_m_begin_17, x_m_begin_18, x_m_begin_19, x_m_begin_20, x_m_begin_21, x_m_begin_22, x_m_begin_25, x_m_begin_27, x_m_begin_28, x_m_begin_29, x_m_begin_30, x_m_begin_33, x_m_begin_35, x_m_begin_36, x_m_begin_37, x_m_begin_38, x_m_begin_41, x_m_begin_43, x_m_begin_44, x_m_begin_45, x_m_begin_46, x_m_begin_48, x_m_begin_50, x_m_begin_53, x_m_begin_54, x_m_begin_57, x_m_begin_58, x_m_begin_59, x_m_begin_62, x_m_begin_63, x_m_begin_64, x_m_begin_65, x_m_begin_66, x_m_begin_67, x_m_begin_70, x_m_begin_73, x_m_begin_74, x_m_begin_77, x_m_begin_78, x_m_begin_80, x_m_begin_82, x_m_begin_85, x_m_begin_86, x_m_begin_89, x_m_begin_91, x_m_begin_92, x_m_begin_93, x_m_begin_94, x_m_begin_97, x_m_begin_98, x_m_begin_99, x_m_begin_100, x_m_begin_103, x_m_begin_106, x_m_begin_107, x_m_begin_108, x_m_begin_109, x_m_begin_111, x_m_begin_112, x_m_begin_113, x_m_begin_116, x_m_begin_118, x_m_begin_119, x_m_begin_120, x_m_begin_123, x_m_begin_124, x_m_begin_126, x_m_begin_127, x_m_begin_130, x_m_begin_131, x_m_begin_132, x_m_begin_135, x_m_begin_136, x_m_begin_137, x_m_begin_138, x_m_begin_141, x_m_begin_142, x_m_begin_143, x_m_begin_144, x_m_begin_145, x_m_begin_146, x_m_begin_147, x_m_begin_148, x_m_begin_151, x_m_begin_152, x_m_begin_153, x_m_begin_156, x_m_begin_158, x_m_begin_159, x_m_begin_160, x_m_begin_161, x_m_begin_164, x_m_begin_165, x_m_begin_167, x_m_begin_168, x_m_begin_170, x_m_begin_171, x_m_begin_172, x_m_begin_173, x_m_begin_176, x_m_begin_178, x_m_begin_179, x_m_begin_180, x_m_begin_183, x_m_begin_184, x_m_begin_187, x_m_begin_188, x_m_begin_190, x_m_begin_191, x_m_begin_194, x_m_begin_196, x_m_begin_197, x_m_begin_198, x_m_begin_200, x_m_begin_203, x_m_begin_204, x_m_begin_205, x_m_begin_206, x_m_begin_209, x_m_begin_210, x_m_begin_211, x_m_begin_212, x_m_begin_215, x_m_begin_218, x_m_begin_219, x_m_begin_221, x_m_begin_224, x_m_begin_227, q_le, h4, if_false, q_add, q_in, q_tn, true_and, g]
    refine ih (l + 1) (by omega) _ (fun k hk => ?_) (fun q k hq => ?_)
    · have h3 := RG_up h1 (9 + l) (dv G l) k hk
      rw [h3]
      congr 1
      unfold up stG
      by_cases e : k = 9 + l
      · subst e; rw [if_pos rfl, if_pos (by omega), show 9 + l - 9 = l from by omega]
      · rw [if_neg e]
        by_cases e2 : 9 ≤ k ∧ k < 9 + l
        · rw [if_pos e2, if_pos (by omega)]
        · rw [if_neg e2, if_neg (by omega)]
    · rw [upj_ne hq]; exact h2 q k hq
theorem lt_LN (x : Int32) {c : Nat} (hc : c < 2147483648) : (x.toInt64 < lN c) = (x < nI c) := by
  apply propext
  rw [Int64.lt_iff_toInt_lt, Int32.lt_iff_toInt_lt, toI64, lN_toI (by omega), nI_toI hc]
theorem ge_LN (x : Int32) {c : Nat} (hc : c < 2147483648) : (lN c ≤ x.toInt64) = ¬ (x < nI c) := by
  rw [i64_le, lt_LN x hc]
theorem or_0 : ∀ a, a < 256 → lN a ||| lN 0 = lN a := by decide +kernel
theorem lp_m_begin3 {t : Nat} {s0 i2 : Int32} {i1 : Int32} (hB : IB G) (ht : t ≤ 1000) (h33 : G 33 = t) (hR : ∀ jv' z', (∀ k, k < 101 → jv' 119 k = lN (up G 35 (hs G t s0 (G 29)) k)) → (∀ q k, q ≠ 119 → jv' q k = jv q k) → XT d Ym_begin 110 [.ref 118, .int i1, .int z', .int (nI (G 29)), mU] [] iv jv' Q) : True := trivial
end BEGIN
