section BEGIN
variable {d : Nat} {iv : mI} {jv : mJ} {Q : Option Value → mH → Prop} {G : Nat → Nat} {f : Nat → Nat}
def hz (z : Int32) : Nat → Int32
  | 0 => z
  | n + 1 => stz (hz z n)
/-- is an ITEM held back, of that many TESTEES -/
def hldB (G : Nat → Nat) (t : Nat) (z : Int32) (i : Nat) : Bool := decide (G (37 + 6 * i + 4) * t < 10 * (G (37 + 6 * i + 5) + 1)) || decide (lot (hz z (i + 1)) 10 < nI (G 31))
def hs (G : Nat → Nat) (t : Nat) (z : Int32) : Nat → Nat
  | 0 => 0
  | n + 1 => if hldB G t z n = true then hs G t z n ||| 2 ^ n else hs G t z n
theorem hs_s (G : Nat → Nat) (t : Nat) (z : Int32) (n : Nat) : hs G t z (n + 1) = if hldB G t z n = true then hs G t z n ||| 2 ^ n else hs G t z n := rfl
theorem hs_lt (G : Nat → Nat) (t : Nat) (z : Int32) : ∀ n, n ≤ 8 → hs G t z n < 2 ^ n
  | 0, _ => by show 0 < 1; decide
  | n + 1, h => by
    have h1 := hs_lt G t z n (by omega)
    have h2 : 2 ^ (n + 1) = 2 ^ n * 2 := Nat.pow_succ 2 n
    rw [hs_s]
    split
    · exact Nat.or_lt_two_pow (by omega) (by omega)
    · omega
def stG (G : Nat → Nat) (n : Nat) : Nat → Nat := fun j => if 9 ≤ j ∧ j < 9 + n then dv G (j - 9) else G j
theorem stG_ne {G : Nat → Nat} {n j : Nat} (h : ¬ (9 ≤ j ∧ j < 9 + n)) : stG G n j = G j := by unfold stG; rw [if_neg h]
theorem stG_at {G : Nat → Nat} {n l : Nat} (h : l < n) : stG G n (9 + l) = dv G l := by
  unfold stG; rw [if_pos (by omega), show 9 + l - 9 = l from by omega]
theorem lp_m_begin1 {z : Int32} (hG : ∀ k, k < 101 → jv 119 k = lN (G k)) : ∀ n l, l + n = 9 → XT d Ym_begin 47 [.ref 118, .int z, .int (nI l), mU, mU] [] iv (stW jv G l) Q = XT d Ym_begin 47 [.ref 118, .int z, .int (nI 9), mU, mU] [] iv (stW jv G 9) Q := by
  intro n
  induction n with
  | zero => intro l hl; obtain rfl : l = 9 := by omega
            rfl
  | succ n ih =>
    intro l hl
    have h4 : ¬ 9 ≤ l := by omega
    have h8 := ih (l + 1) (by omega)
    have g : stW jv G l 119 l = lN (G l) := (stW_ne (by decide)).trans (hG l (by omega))
    have e0 : 0 + l = l := Nat.zero_add l
    rw [← stW_s] at h8
    rw [← h8, x_m_begin_47]
    simp (disch := first | assumption | omega) only [x_m_begin_0, x_m_begin_1, x_m_begin_4, x_m_begin_7, x_m_begin_9, x_m_begin_10, x_m_begin_11, x_m_begin_14, x_m_begin_16, x_m_begin_17, x_m_begin_18, x_m_begin_19, x_m_begin_20, x_m_begin_21, x_m_begin_22, x_m_begin_25, x_m_begin_27, x_m_begin_28, x_m_begin_29, x_m_begin_30, x_m_begin_33, x_m_begin_35, x_m_begin_36, x_m_begin_37, x_m_begin_38, x_m_begin_41, x_m_begin_43, x_m_begin_44, x_m_begin_45, x_m_begin_46, x_m_begin_48, x_m_begin_50, x_m_begin_53, x_m_begin_54, x_m_begin_57, x_m_begin_58, x_m_begin_59, x_m_begin_62, x_m_begin_63, x_m_begin_64, x_m_begin_65, x_m_begin_66, x_m_begin_67, x_m_begin_70, x_m_begin_73, x_m_begin_74, x_m_begin_77, x_m_begin_78, x_m_begin_80, x_m_begin_82, x_m_begin_85, x_m_begin_86, x_m_begin_89, x_m_begin_91, x_m_begin_92, x_m_begin_93, x_m_begin_94, x_m_begin_97, x_m_begin_98, x_m_begin_99, x_m_begin_100, x_m_begin_103, x_m_begin_106, x_m_begin_107, x_m_begin_108, x_m_begin_109, x_m_begin_111, x_m_begin_112, x_m_begin_113, x_m_begin_116, x_m_begin_118, x_m_begin_119, x_m_begin_120, x_m_begin_123, x_m_begin_124, x_m_begin_126, x_m_begin_127, x_m_begin_130, x_m_begin_131, x_m_begin_132, x_m_begin_135, x_m_begin_136, x_m_begin_137, x_m_begin_138, x_m_begin_141, x_m_begin_142, x_m_begin_143, x_m_begin_144, x_m_begin_145, x_m_begin_146, x_m_begin_147, x_m_begin_148, x_m_begin_151, x_m_begin_152, x_m_begin_153, x_m_begin_156, x_m_begin_158, x_m_begin_159, x_m_begin_160, x_m_begin_161, x_m_begin_164, x_m_begin_165, x_m_begin_167, x_m_begin_168, x_m_begin_170, x_m_begin_171, x_m_begin_172, x_m_begin_173, x_m_begin_176, x_m_begin_178, x_m_begin_179, x_m_begin_180, x_m_begin_183, x_m_begin_184, x_m_begin_187, x_m_begin_188, x_m_begin_190, x_m_begin_191, x_m_begin_194, x_m_begin_196, x_m_begin_197, x_m_begin_198, x_m_begin_200, x_m_begin_203, x_m_begin_204, x_m_begin_205, x_m_begin_206, x_m_begin_209, x_m_begin_210, x_m_begin_211, x_m_begin_212, x_m_begin_215, x_m_begin_218, x_m_begin_219, x_m_begin_221, x_m_begin_224, x_m_begin_227, q_le, h4, if_false, q_add, e0, q_in, q_tn, true_and, g]
theorem lp_m_begin2 {z : Int32} (R : Prop) (hR : ∀ jv', (∀ k, k < 101 → jv' 119 k = lN (stG G 9 k)) → (∀ q k, q ≠ 119 → jv' q k = jv q k) → XT d Ym_begin 79 [.ref 118, .int z, .int (nI 9), mU, mU] [] iv jv' Q) (hW : ∀ l, l < 9 → jv 122 l = lN (dv G l)) : ∀ n l, l + n = 9 → ∀ jv1, (∀ k, k < 101 → jv1 119 k = lN (stG G l k)) → (∀ q k, q ≠ 119 → jv1 q k = jv q k) → XT d Ym_begin 79 [.ref 118, .int z, .int (nI l), mU, mU] [] iv jv1 Q := by
  intro n
  induction n with
  | zero => intro l hl jv1 h1 h2; obtain rfl : l = 9 := by omega
            exact hR jv1 h1 h2
  | succ n ih =>
    intro l hl jv1 h1 h2
    have h4 : ¬ 9 ≤ l := by omega
    have g : jv1 122 l = lN (dv G l) := (h2 122 l (by decide)).trans (hW l (by omega))
    rw [x_m_begin_79]
    simp (disch := first | assumption | omega) only [x_m_begin_0, x_m_begin_1, x_m_begin_4, x_m_begin_7, x_m_begin_9, x_m_begin_10, x_m_begin_11, x_m_begin_14, x_m_begin_16, x_m_begin_17, x_m_begin_18, x_m_begin_19, x_m_begin_20, x_m_begin_21, x_m_begin_22, x_m_begin_25, x_m_begin_27, x_m_begin_28, x_m_begin_29, x_m_begin_30, x_m_begin_33, x_m_begin_35, x_m_begin_36, x_m_begin_37, x_m_begin_38, x_m_begin_41, x_m_begin_43, x_m_begin_44, x_m_begin_45, x_m_begin_46, x_m_begin_48, x_m_begin_50, x_m_begin_53, x_m_begin_54, x_m_begin_57, x_m_begin_58, x_m_begin_59, x_m_begin_62, x_m_begin_63, x_m_begin_64, x_m_begin_65, x_m_begin_66, x_m_begin_67, x_m_begin_70, x_m_begin_73, x_m_begin_74, x_m_begin_77, x_m_begin_78, x_m_begin_80, x_m_begin_82, x_m_begin_85, x_m_begin_86, x_m_begin_89, x_m_begin_91, x_m_begin_92, x_m_begin_93, x_m_begin_94, x_m_begin_97, x_m_begin_98, x_m_begin_99, x_m_begin_100, x_m_begin_103, x_m_begin_106, x_m_begin_107, x_m_begin_108, x_m_begin_109, x_m_begin_111, x_m_begin_112, x_m_begin_113, x_m_begin_116, x_m_begin_118, x_m_begin_119, x_m_begin_120, x_m_begin_123, x_m_begin_124, x_m_begin_126, x_m_begin_127, x_m_begin_130, x_m_begin_131, x_m_begin_132, x_m_begin_135, x_m_begin_136, x_m_begin_137, x_m_begin_138, x_m_begin_141, x_m_begin_142, x_m_begin_143, x_m_begin_144, x_m_begin_145, x_m_begin_146, x_m_begin_147, x_m_begin_148, x_m_begin_151, x_m_begin_152, x_m_begin_153, x_m_begin_156, x_m_begin_158, x_m_begin_159, x_m_begin_160, x_m_begin_161, x_m_begin_164, x_m_begin_165, x_m_begin_167, x_m_begin_168, x_m_begin_170, x_m_begin_171, x_m_begin_172, x_m_begin_173, x_m_begin_176, x_m_begin_178, x_m_begin_179, x_m_begin_180, x_m_begin_183, x_m_begin_184, x_m_begin_187, x_m_begin_188, x_m_begin_190, x_m_begin_191, x_m_begin_194, x_m_begin_196, x_m_begin_197, x_m_begin_198, x_m_begin_200, x_m_begin_203, x_m_begin_204, x_m_begin_205, x_m_begin_206, x_m_begin_209, x_m_begin_210, x_m_begin_211, x_m_begin_212, x_m_begin_215, x_m_begin_218, x_m_begin_219, x_m_begin_221, x_m_begin_224, x_m_begin_227, q_le, h4, if_false, q_add, q_in, q_tn, true_and, g]
    refine ih (l + 1) (by omega) _ (fun k hk => ?_) (fun q k hq => ?_)
    · have h3 := RG_up h1 (9 + l) (dv G l) k hk
      rw [h3]
      congr 1
      unfold up stG
      by_cases e : k = 9 + l
      · subst e; rw [if_pos rfl, if_pos (by omega), show 9 + l - 9 = l from by omega]
      · rw [if_neg e]
        by_cases e2 : 9 ≤ k ∧ k < 9 + l
        · rw [if_pos e2, if_pos (by omega)]
        · rw [if_neg e2, if_neg (by omega)]
    · rw [upj_ne hq]; exact h2 q k hq
theorem lt_LN (x : Int32) {c : Nat} (hc : c < 2147483648) : (x.toInt64 < lN c) = (x < nI c) := by
  apply propext
  rw [Int64.lt_iff_toInt_lt, Int32.lt_iff_toInt_lt, toI64, lN_toI (by omega), nI_toI hc]
theorem ge_LN (x : Int32) {c : Nat} (hc : c < 2147483648) : (lN c ≤ x.toInt64) = ¬ (x < nI c) := by
  rw [i64_le, lt_LN x hc]
theorem or_0 : ∀ a, a < 256 → lN a ||| lN 0 = lN a := by decide +kernel
theorem lp_m_begin3 {t : Nat} {s0 i1 : Int32} (hB : IB G) (ht : t ≤ 1000) (h33 : G 33 = t) (hQ : ∀ jv', (∀ k, k < 101 → jv' 119 k = lN (up G 35 (hs G t s0 (G 29)) k)) → (∀ q k, q ≠ 119 → jv' q k = jv q k) → Q (some (.int (nI (cntB (hs G t s0 (G 29)) 8)))) (mk iv jv')) : ∀ n i, i + n = G 29 → ∀ jv1 u4, (∀ k, k < 101 → jv1 119 k = lN (up G 35 (hs G t s0 i) k)) → (∀ q k, q ≠ 119 → jv1 q k = jv q k) → XT (d + 2) Ym_begin 110 [.ref 118, .int i1, .int (hz s0 i), .int (nI i), u4] [] iv jv1 Q := by
  have b1 := hB.1
  intro n
  induction n with
  | zero =>
    intro i hi jv1 u4 h1 h2
    obtain rfl : i = G 29 := by omega
    have g29 := h1 29 (by decide)
    rw [up_ne (by decide)] at g29
    have g35 := h1 35 (by decide)
    rw [up_at] at g35
    have hl := hs_lt G t s0 (G 29) b1
    have hp := pow_le b1
    rw [x_m_begin_110]
    simp (disch := first | assumption | omega) only [x_m_begin_0, x_m_begin_1, x_m_begin_4, x_m_begin_7, x_m_begin_9, x_m_begin_10, x_m_begin_11, x_m_begin_14, x_m_begin_16, x_m_begin_17, x_m_begin_18, x_m_begin_19, x_m_begin_20, x_m_begin_21, x_m_begin_22, x_m_begin_25, x_m_begin_27, x_m_begin_28, x_m_begin_29, x_m_begin_30, x_m_begin_33, x_m_begin_35, x_m_begin_36, x_m_begin_37, x_m_begin_38, x_m_begin_41, x_m_begin_43, x_m_begin_44, x_m_begin_45, x_m_begin_46, x_m_begin_48, x_m_begin_50, x_m_begin_53, x_m_begin_54, x_m_begin_57, x_m_begin_58, x_m_begin_59, x_m_begin_62, x_m_begin_63, x_m_begin_64, x_m_begin_65, x_m_begin_66, x_m_begin_67, x_m_begin_70, x_m_begin_73, x_m_begin_74, x_m_begin_77, x_m_begin_78, x_m_begin_80, x_m_begin_82, x_m_begin_85, x_m_begin_86, x_m_begin_89, x_m_begin_91, x_m_begin_92, x_m_begin_93, x_m_begin_94, x_m_begin_97, x_m_begin_98, x_m_begin_99, x_m_begin_100, x_m_begin_103, x_m_begin_106, x_m_begin_107, x_m_begin_108, x_m_begin_109, x_m_begin_111, x_m_begin_112, x_m_begin_113, x_m_begin_116, x_m_begin_118, x_m_begin_119, x_m_begin_120, x_m_begin_123, x_m_begin_124, x_m_begin_126, x_m_begin_127, x_m_begin_130, x_m_begin_131, x_m_begin_132, x_m_begin_135, x_m_begin_136, x_m_begin_137, x_m_begin_138, x_m_begin_141, x_m_begin_142, x_m_begin_143, x_m_begin_144, x_m_begin_145, x_m_begin_146, x_m_begin_147, x_m_begin_148, x_m_begin_151, x_m_begin_152, x_m_begin_153, x_m_begin_156, x_m_begin_158, x_m_begin_159, x_m_begin_160, x_m_begin_161, x_m_begin_164, x_m_begin_165, x_m_begin_167, x_m_begin_168, x_m_begin_170, x_m_begin_171, x_m_begin_172, x_m_begin_173, x_m_begin_176, x_m_begin_178, x_m_begin_179, x_m_begin_180, x_m_begin_183, x_m_begin_184, x_m_begin_187, x_m_begin_188, x_m_begin_190, x_m_begin_191, x_m_begin_194, x_m_begin_196, x_m_begin_197, x_m_begin_198, x_m_begin_200, x_m_begin_203, x_m_begin_204, x_m_begin_205, x_m_begin_206, x_m_begin_209, x_m_begin_210, x_m_begin_211, x_m_begin_212, x_m_begin_215, x_m_begin_218, x_m_begin_219, x_m_begin_221, x_m_begin_224, x_m_begin_227, q_i2l, q_in, q_tn, true_and, g29, c_ge, c_lt, q_lle, q_llt, Nat.le_refl, Nat.lt_irrefl, if_true, if_false, sp_m_get, XK_s, g35, q_l2i, sp_m_bits]
    exact hQ jv1 h1 h2
  | succ n ih =>
    intro i hi jv1 u4 h1 h2
    have h4 : ¬ G 29 ≤ i := by omega
    have h4' : i < G 29 := by omega
    have hi8 : i < 8 := by omega
    have g29 := h1 29 (by decide)
    rw [up_ne (by decide)] at g29
    have g35 := h1 35 (by decide)
    rw [up_at] at g35
    have g33 := h1 33 (by decide)
    rw [up_ne (by decide), h33] at g33
    have g31 := h1 31 (by decide)
    rw [up_ne (by decide)] at g31
    have ge := h1 (37 + 6 * i + 4) (by omega)
    rw [up_ne (by omega)] at ge
    have gg := h1 (37 + 6 * i + 5) (by omega)
    rw [up_ne (by omega)] at gg
    have b4 := hB.2.2.2.1 i hi8
    have b10 : G 31 ≤ 9 := hB.2.2.2.2.2.2.2.2.2.1
    have m1 : G (37 + 6 * i + 4) * t ≤ 10 * 1000 := Nat.mul_le_mul b4.2.2.2.2.1 ht
    have hl := hs_lt G t s0 i (by omega)
    have hp := pow_le (k := i) (by omega)
    have hl2 := hs_lt G t s0 (i + 1) (by omega)
    have hor := bit_orL (hs G t s0 i) (by omega) i hi8
    have ho0 := or_0 (hs G t s0 i) (by omega)
    rw [q_i2l (by omega)] at hor
    have h16 : ¬ (nI 10 = 0) := by decide
    have h8 := ih (i + 1) (by omega)
    have fin : ∀ u4, XT (d + 2) Ym_begin 110 [.ref 118, .int i1, .int (stz (hz s0 i)), .int (nI (i + 1)), u4] [] iv (upj jv1 119 35 (lN (hs G t s0 (i + 1)))) Q := by
      intro u4
      refine h8 _ u4 (fun k hk => ?_) (fun q k hq => ?_)
      · by_cases e : k = 35
        · subst e; rw [upj_at, up_at]
        · rw [upj_nk e, h1 k hk, up_ne e, up_ne e]
      · rw [upj_ne hq]; exact h2 q k hq
    rw [x_m_begin_110]
    simp (disch := first | assumption | omega) only [x_m_begin_0, x_m_begin_1, x_m_begin_4, x_m_begin_7, x_m_begin_9, x_m_begin_10, x_m_begin_11, x_m_begin_14, x_m_begin_16, x_m_begin_17, x_m_begin_18, x_m_begin_19, x_m_begin_20, x_m_begin_21, x_m_begin_22, x_m_begin_25, x_m_begin_27, x_m_begin_28, x_m_begin_29, x_m_begin_30, x_m_begin_33, x_m_begin_35, x_m_begin_36, x_m_begin_37, x_m_begin_38, x_m_begin_41, x_m_begin_43, x_m_begin_44, x_m_begin_45, x_m_begin_46, x_m_begin_48, x_m_begin_50, x_m_begin_53, x_m_begin_54, x_m_begin_57, x_m_begin_58, x_m_begin_59, x_m_begin_62, x_m_begin_63, x_m_begin_64, x_m_begin_65, x_m_begin_66, x_m_begin_67, x_m_begin_70, x_m_begin_73, x_m_begin_74, x_m_begin_77, x_m_begin_78, x_m_begin_80, x_m_begin_82, x_m_begin_85, x_m_begin_86, x_m_begin_89, x_m_begin_91, x_m_begin_92, x_m_begin_93, x_m_begin_94, x_m_begin_97, x_m_begin_98, x_m_begin_99, x_m_begin_100, x_m_begin_103, x_m_begin_106, x_m_begin_107, x_m_begin_108, x_m_begin_109, x_m_begin_111, x_m_begin_112, x_m_begin_113, x_m_begin_116, x_m_begin_118, x_m_begin_119, x_m_begin_120, x_m_begin_123, x_m_begin_124, x_m_begin_126, x_m_begin_127, x_m_begin_130, x_m_begin_131, x_m_begin_132, x_m_begin_135, x_m_begin_136, x_m_begin_137, x_m_begin_138, x_m_begin_141, x_m_begin_142, x_m_begin_143, x_m_begin_144, x_m_begin_145, x_m_begin_146, x_m_begin_147, x_m_begin_148, x_m_begin_151, x_m_begin_152, x_m_begin_153, x_m_begin_156, x_m_begin_158, x_m_begin_159, x_m_begin_160, x_m_begin_161, x_m_begin_164, x_m_begin_165, x_m_begin_167, x_m_begin_168, x_m_begin_170, x_m_begin_171, x_m_begin_172, x_m_begin_173, x_m_begin_176, x_m_begin_178, x_m_begin_179, x_m_begin_180, x_m_begin_183, x_m_begin_184, x_m_begin_187, x_m_begin_188, x_m_begin_190, x_m_begin_191, x_m_begin_194, x_m_begin_196, x_m_begin_197, x_m_begin_198, x_m_begin_200, x_m_begin_203, x_m_begin_204, x_m_begin_205, x_m_begin_206, x_m_begin_209, x_m_begin_210, x_m_begin_211, x_m_begin_212, x_m_begin_215, x_m_begin_218, x_m_begin_219, x_m_begin_221, x_m_begin_224, x_m_begin_227, q_i2l, q_in, q_tn, true_and, g29, c_ge, c_lt, c_gt, c_le, q_lle, q_llt, h4, h4', if_true, if_false, sp_m_of, ge, gg, XK_s, q_l2i, q_add, g33, q_lmul, h16, not_false_eq_true, g31, lt_LN, ge_LN, g35]
    have hd : hldB G t s0 i = (decide (G (37 + 6 * i + 4) * t < 10 * (G (37 + 6 * i + 5) + 1)) || decide (lot (stz (hz s0 i)) 10 < nI (G 31))) := rfl
    have key : ∀ c : Bool, hldB G t s0 i = c → XT (d + 2) Ym_begin 110 [.ref 118, .int i1, .int (stz (hz s0 i)), .int (nI (i + 1)), .int (b01 (c = true))] [] iv (upj jv1 119 35 (if c = true then lN (hs G t s0 i ||| 2 ^ i) else lN (hs G t s0 i))) Q := by
      intro c hc
      have := fin (.int (b01 (c = true)))
      rw [hs_s, hc] at this
      cases c with
      | true => exact this
      | false => exact this
    by_cases p1 : G (37 + 6 * i + 4) * t < 10 * (G (37 + 6 * i + 5) + 1)
    · have p1' : ¬ 10 * (G (37 + 6 * i + 5) + 1) ≤ G (37 + 6 * i + 4) * t := by omega
      have hc : hldB G t s0 i = true := by rw [hd]; simp [p1]
      have := key true hc
      rw [if_pos rfl, b01_t rfl] at this
      simp (disch := first | assumption | omega) only [p1, p1', if_true, if_false, n10, hor]
      exact this
    · have p1' : 10 * (G (37 + 6 * i + 5) + 1) ≤ G (37 + 6 * i + 4) * t := by omega
      by_cases p2 : lot (stz (hz s0 i)) 10 < nI (G 31)
      · have hc : hldB G t s0 i = true := by rw [hd]; simp [p2]
        have := key true hc
        rw [if_pos rfl, b01_t rfl] at this
        have p2' := p2
        unfold lot ush9 stz at p2'
        simp (disch := first | assumption | omega) only [p1, p1', p2', not_true_eq_false, not_false_eq_true, if_true, if_false, n10, hor]
        exact this
      · have hc : hldB G t s0 i = false := by rw [hd]; simp [p1, p2]
        have := key false hc
        rw [if_neg (by decide), b01_f (by decide)] at this
        have p2' := p2
        unfold lot ush9 stz at p2'
        simp (disch := first | assumption | omega) only [p1, p1', p2', not_true_eq_false, not_false_eq_true, if_true, if_false, n10, ho0]
        exact this
def bgG (G : Nat → Nat) : Nat → Nat := up (up (up (up G 33 (G 33 + 1)) 34 1) 35 0) 36 0
def beG (G : Nat → Nat) (z : Int32) : Nat → Nat := up (stG (bgG G) 9) 35 (hs (stG (bgG G) 9) (G 33 + 1) z (G 29))
def vBegin (G : Nat → Nat) (z : Int32) : Nat := cntB (hs (stG (bgG G) 9) (G 33 + 1) z (G 29)) 8
theorem bgG_ne {G : Nat → Nat} {j : Nat} (h : j < 33 ∨ 36 < j) : bgG G j = G j := by
  unfold bgG; rw [up_ne (by omega), up_ne (by omega), up_ne (by omega), up_ne (by omega)]
theorem gcn_congr {f g : Nat → Nat} : ∀ n, (∀ l, l < n → f l = g l) → gcn f n = gcn g n
  | 0, _ => rfl
  | n + 1, h => by
    show Nat.gcd (gcn f n) (f n) = Nat.gcd (gcn g n) (g n)
    rw [gcn_congr n (fun l hl => h l (by omega)), h n (by omega)]
theorem dv_bg {G : Nat → Nat} {l : Nat} (hl : l < 9) : dv (bgG G) l = dv G l := by
  unfold dv
  rw [gcn_congr 9 (fun l hl => bgG_ne (by omega)), bgG_ne (by omega)]
theorem st_bg {G : Nat → Nat} {j : Nat} (h : ¬ (9 ≤ j ∧ j < 18)) : stG (bgG G) 9 j = bgG G j := stG_ne h
theorem IB_bg {G : Nat → Nat} (hB : IB G) (ht : G 33 < 1000) : IB (stG (bgG G) 9) := by
  obtain ⟨b1, b2, b3, b4, b5, b6, b7, b8, b9, b10, b11, b12, b13⟩ := hB
  have e : ∀ j, ¬ (9 ≤ j ∧ j < 18) → (j < 33 ∨ 36 < j) → stG (bgG G) 9 j = G j := fun j h1 h2 => (st_bg h1).trans (bgG_ne h2)
  have e36 : stG (bgG G) 9 36 = 0 := (st_bg (by omega)).trans (up_at _ _ _)
  have e35 : stG (bgG G) 9 35 = 0 := (st_bg (by omega)).trans (by unfold bgG; rw [up_ne (by decide), up_at])
  have e34 : stG (bgG G) 9 34 = 1 := (st_bg (by omega)).trans (by unfold bgG; rw [up_ne (by decide), up_ne (by decide), up_at])
  have e33 : stG (bgG G) 9 33 = G 33 + 1 := (st_bg (by omega)).trans (by unfold bgG; rw [up_ne (by decide), up_ne (by decide), up_ne (by decide), up_at])
  refine ⟨?_, ?_, ?_, ?_, ?_, ?_, ?_, ?_, ?_, ?_, ?_, ?_, ?_⟩
  · rw [e 29 (by omega) (by omega)]; exact b1
  · rw [e36]; omega
  · rw [e35]; omega
  · intro i hi
    rw [e _ (by omega) (by omega), e _ (by omega) (by omega), e _ (by omega) (by omega), e _ (by omega) (by omega), e _ (by omega) (by omega), e _ (by omega) (by omega)]
    exact b4 i hi
  · intro k hk
    rw [e _ (by omega) (by omega), e _ (by omega) (by omega)]
    exact b5 k hk
  · intro l hl
    by_cases h : l < 9
    · rw [e l (by omega) (by omega)]; exact b6 l hl
    · have h1 := stG_at (G := bgG G) (n := 9) (l := l - 9) (by omega)
      rw [show 9 + (l - 9) = l from by omega] at h1
      rw [h1, dv_bg (by omega)]
      exact Nat.le_trans (dv_le _ _) (b6 _ (by omega))
  · intro a ha
    rw [e _ (by omega) (by omega), e _ (by omega) (by omega)]; exact b7 a ha
  · intro r hr
    rw [e _ (by omega) (by omega)]; exact b8 r hr
  · rw [e 30 (by omega) (by omega)]; exact b9
  · rw [e 31 (by omega) (by omega)]; exact b10
  · rw [e 32 (by omega) (by omega)]; exact b11
  · rw [e33]; omega
  · rw [e34]; omega
theorem sp_m_begin {z : Int32} (hG : ∀ k, k < 101 → jv 119 k = lN (G k)) (hB : IB G) (hn : nz G) (ht : G 33 < 1000) (h0 : G 34 = 1 → Q (some (.int (-3))) (mk iv jv)) (hQ : G 34 ≠ 1 → ∀ jv', (∀ k, k < 101 → jv' 119 k = lN (beG G z k)) → (∀ q k, q ≠ 119 → q ≠ 122 → jv' q k = jv q k) → Q (some (.int (nI (vBegin G z)))) (mk iv jv')) : XM (d + 3) Ym_begin [.ref 118, .int z] iv jv Q := by
  have g34 := hG 34 (by decide)
  have b13 : G 34 ≤ 1 := hB.2.2.2.2.2.2.2.2.2.2.2.2
  have g33 := hG 33 (by decide)
  have r1 := RG_up hG 33 (G 33 + 1)
  have r2 := RG_up r1 34 1
  have r3 := RG_up r2 35 0
  have r4 := RG_up r3 36 0
  have hB2 := IB_bg hB ht
  have hlt : ∀ l, l < 9 → bgG G l < 9223372036854775808 := fun l hl => by
    rw [bgG_ne (by omega)]; have := hB.2.2.2.2.2.1 l (by omega); omega
  have hnb : nz (bgG G) := by
    obtain ⟨l, hl, h⟩ := hn
    exact ⟨l, hl, by rw [bgG_ne (by omega)]; exact h⟩
  by_cases p : G 34 = 1
  · have h0 := h0 p
    simp (disch := first | assumption | omega) only [e_m_begin, x_m_begin_0, x_m_begin_1, x_m_begin_4, x_m_begin_7, x_m_begin_9, x_m_begin_10, x_m_begin_11, x_m_begin_14, x_m_begin_16, x_m_begin_17, x_m_begin_18, x_m_begin_19, x_m_begin_20, x_m_begin_21, x_m_begin_22, x_m_begin_25, x_m_begin_27, x_m_begin_28, x_m_begin_29, x_m_begin_30, x_m_begin_33, x_m_begin_35, x_m_begin_36, x_m_begin_37, x_m_begin_38, x_m_begin_41, x_m_begin_43, x_m_begin_44, x_m_begin_45, x_m_begin_46, x_m_begin_48, x_m_begin_50, x_m_begin_53, x_m_begin_54, x_m_begin_57, x_m_begin_58, x_m_begin_59, x_m_begin_62, x_m_begin_63, x_m_begin_64, x_m_begin_65, x_m_begin_66, x_m_begin_67, x_m_begin_70, x_m_begin_73, x_m_begin_74, x_m_begin_77, x_m_begin_78, x_m_begin_80, x_m_begin_82, x_m_begin_85, x_m_begin_86, x_m_begin_89, x_m_begin_91, x_m_begin_92, x_m_begin_93, x_m_begin_94, x_m_begin_97, x_m_begin_98, x_m_begin_99, x_m_begin_100, x_m_begin_103, x_m_begin_106, x_m_begin_107, x_m_begin_108, x_m_begin_109, x_m_begin_111, x_m_begin_112, x_m_begin_113, x_m_begin_116, x_m_begin_118, x_m_begin_119, x_m_begin_120, x_m_begin_123, x_m_begin_124, x_m_begin_126, x_m_begin_127, x_m_begin_130, x_m_begin_131, x_m_begin_132, x_m_begin_135, x_m_begin_136, x_m_begin_137, x_m_begin_138, x_m_begin_141, x_m_begin_142, x_m_begin_143, x_m_begin_144, x_m_begin_145, x_m_begin_146, x_m_begin_147, x_m_begin_148, x_m_begin_151, x_m_begin_152, x_m_begin_153, x_m_begin_156, x_m_begin_158, x_m_begin_159, x_m_begin_160, x_m_begin_161, x_m_begin_164, x_m_begin_165, x_m_begin_167, x_m_begin_168, x_m_begin_170, x_m_begin_171, x_m_begin_172, x_m_begin_173, x_m_begin_176, x_m_begin_178, x_m_begin_179, x_m_begin_180, x_m_begin_183, x_m_begin_184, x_m_begin_187, x_m_begin_188, x_m_begin_190, x_m_begin_191, x_m_begin_194, x_m_begin_196, x_m_begin_197, x_m_begin_198, x_m_begin_200, x_m_begin_203, x_m_begin_204, x_m_begin_205, x_m_begin_206, x_m_begin_209, x_m_begin_210, x_m_begin_211, x_m_begin_212, x_m_begin_215, x_m_begin_218, x_m_begin_219, x_m_begin_221, x_m_begin_224, x_m_begin_227, sp_m_isOn g34 b13, XK_s, b01_eq0, p, not_true_eq_false, if_false]
    exact h0
  · have hQ := hQ p
    simp (disch := first | assumption | omega) only [e_m_begin, x_m_begin_0, x_m_begin_1, x_m_begin_4, x_m_begin_7, x_m_begin_9, x_m_begin_10, x_m_begin_11, x_m_begin_14, x_m_begin_16, x_m_begin_17, x_m_begin_18, x_m_begin_19, x_m_begin_20, x_m_begin_21, x_m_begin_22, x_m_begin_25, x_m_begin_27, x_m_begin_28, x_m_begin_29, x_m_begin_30, x_m_begin_33, x_m_begin_35, x_m_begin_36, x_m_begin_37, x_m_begin_38, x_m_begin_41, x_m_begin_43, x_m_begin_44, x_m_begin_45, x_m_begin_46, x_m_begin_48, x_m_begin_50, x_m_begin_53, x_m_begin_54, x_m_begin_57, x_m_begin_58, x_m_begin_59, x_m_begin_62, x_m_begin_63, x_m_begin_64, x_m_begin_65, x_m_begin_66, x_m_begin_67, x_m_begin_70, x_m_begin_73, x_m_begin_74, x_m_begin_77, x_m_begin_78, x_m_begin_80, x_m_begin_82, x_m_begin_85, x_m_begin_86, x_m_begin_89, x_m_begin_91, x_m_begin_92, x_m_begin_93, x_m_begin_94, x_m_begin_97, x_m_begin_98, x_m_begin_99, x_m_begin_100, x_m_begin_103, x_m_begin_106, x_m_begin_107, x_m_begin_108, x_m_begin_109, x_m_begin_111, x_m_begin_112, x_m_begin_113, x_m_begin_116, x_m_begin_118, x_m_begin_119, x_m_begin_120, x_m_begin_123, x_m_begin_124, x_m_begin_126, x_m_begin_127, x_m_begin_130, x_m_begin_131, x_m_begin_132, x_m_begin_135, x_m_begin_136, x_m_begin_137, x_m_begin_138, x_m_begin_141, x_m_begin_142, x_m_begin_143, x_m_begin_144, x_m_begin_145, x_m_begin_146, x_m_begin_147, x_m_begin_148, x_m_begin_151, x_m_begin_152, x_m_begin_153, x_m_begin_156, x_m_begin_158, x_m_begin_159, x_m_begin_160, x_m_begin_161, x_m_begin_164, x_m_begin_165, x_m_begin_167, x_m_begin_168, x_m_begin_170, x_m_begin_171, x_m_begin_172, x_m_begin_173, x_m_begin_176, x_m_begin_178, x_m_begin_179, x_m_begin_180, x_m_begin_183, x_m_begin_184, x_m_begin_187, x_m_begin_188, x_m_begin_190, x_m_begin_191, x_m_begin_194, x_m_begin_196, x_m_begin_197, x_m_begin_198, x_m_begin_200, x_m_begin_203, x_m_begin_204, x_m_begin_205, x_m_begin_206, x_m_begin_209, x_m_begin_210, x_m_begin_211, x_m_begin_212, x_m_begin_215, x_m_begin_218, x_m_begin_219, x_m_begin_221, x_m_begin_224, x_m_begin_227, sp_m_isOn g34 b13, XK_s, b01_eq0, p, not_false_eq_true, if_true, q_in, q_tn, true_and, g33, q_ladd]
    have l1 := lp_m_begin1 (d := d + 2) (z := z) (iv := iv) (Q := Q) (G := bgG G) r4 9 0 (by omega)
    rw [stW_0] at l1
    refine l1.mpr ?_
    rw [x_m_begin_47]
    have hdv := fun Q : Option Value → mH → Prop => sp_m_divides (d := d) (iv := iv) (jv := stW (upj (upj (upj (upj jv 119 33 (lN (G 33 + 1))) 119 34 (lN 1)) 119 35 (lN 0)) 119 36 (lN 0)) (bgG G) 9) (f := bgG G) (Q := Q) (fun l hl => stW_lt hl) hlt hnb
    simp (disch := first | assumption | omega) only [x_m_begin_0, x_m_begin_1, x_m_begin_4, x_m_begin_7, x_m_begin_9, x_m_begin_10, x_m_begin_11, x_m_begin_14, x_m_begin_16, x_m_begin_17, x_m_begin_18, x_m_begin_19, x_m_begin_20, x_m_begin_21, x_m_begin_22, x_m_begin_25, x_m_begin_27, x_m_begin_28, x_m_begin_29, x_m_begin_30, x_m_begin_33, x_m_begin_35, x_m_begin_36, x_m_begin_37, x_m_begin_38, x_m_begin_41, x_m_begin_43, x_m_begin_44, x_m_begin_45, x_m_begin_46, x_m_begin_48, x_m_begin_50, x_m_begin_53, x_m_begin_54, x_m_begin_57, x_m_begin_58, x_m_begin_59, x_m_begin_62, x_m_begin_63, x_m_begin_64, x_m_begin_65, x_m_begin_66, x_m_begin_67, x_m_begin_70, x_m_begin_73, x_m_begin_74, x_m_begin_77, x_m_begin_78, x_m_begin_80, x_m_begin_82, x_m_begin_85, x_m_begin_86, x_m_begin_89, x_m_begin_91, x_m_begin_92, x_m_begin_93, x_m_begin_94, x_m_begin_97, x_m_begin_98, x_m_begin_99, x_m_begin_100, x_m_begin_103, x_m_begin_106, x_m_begin_107, x_m_begin_108, x_m_begin_109, x_m_begin_111, x_m_begin_112, x_m_begin_113, x_m_begin_116, x_m_begin_118, x_m_begin_119, x_m_begin_120, x_m_begin_123, x_m_begin_124, x_m_begin_126, x_m_begin_127, x_m_begin_130, x_m_begin_131, x_m_begin_132, x_m_begin_135, x_m_begin_136, x_m_begin_137, x_m_begin_138, x_m_begin_141, x_m_begin_142, x_m_begin_143, x_m_begin_144, x_m_begin_145, x_m_begin_146, x_m_begin_147, x_m_begin_148, x_m_begin_151, x_m_begin_152, x_m_begin_153, x_m_begin_156, x_m_begin_158, x_m_begin_159, x_m_begin_160, x_m_begin_161, x_m_begin_164, x_m_begin_165, x_m_begin_167, x_m_begin_168, x_m_begin_170, x_m_begin_171, x_m_begin_172, x_m_begin_173, x_m_begin_176, x_m_begin_178, x_m_begin_179, x_m_begin_180, x_m_begin_183, x_m_begin_184, x_m_begin_187, x_m_begin_188, x_m_begin_190, x_m_begin_191, x_m_begin_194, x_m_begin_196, x_m_begin_197, x_m_begin_198, x_m_begin_200, x_m_begin_203, x_m_begin_204, x_m_begin_205, x_m_begin_206, x_m_begin_209, x_m_begin_210, x_m_begin_211, x_m_begin_212, x_m_begin_215, x_m_begin_218, x_m_begin_219, x_m_begin_221, x_m_begin_224, x_m_begin_227, q_le, Nat.le_refl, if_true, hdv, XK_n]
    refine lp_m_begin2 (G := bgG G) (jv := stW (stW (upj (upj (upj (upj jv 119 33 (lN (G 33 + 1))) 119 34 (lN 1)) 119 35 (lN 0)) 119 36 (lN 0)) (bgG G) 9) (dv (bgG G)) 9) True (fun jv' h1 h2 => ?_) (fun l hl => stW_lt hl) 9 0 (by omega) _ (fun k hk => ?_) (fun q k hq => rfl)
    · rw [x_m_begin_79]
      simp (disch := first | assumption | omega) only [x_m_begin_0, x_m_begin_1, x_m_begin_4, x_m_begin_7, x_m_begin_9, x_m_begin_10, x_m_begin_11, x_m_begin_14, x_m_begin_16, x_m_begin_17, x_m_begin_18, x_m_begin_19, x_m_begin_20, x_m_begin_21, x_m_begin_22, x_m_begin_25, x_m_begin_27, x_m_begin_28, x_m_begin_29, x_m_begin_30, x_m_begin_33, x_m_begin_35, x_m_begin_36, x_m_begin_37, x_m_begin_38, x_m_begin_41, x_m_begin_43, x_m_begin_44, x_m_begin_45, x_m_begin_46, x_m_begin_48, x_m_begin_50, x_m_begin_53, x_m_begin_54, x_m_begin_57, x_m_begin_58, x_m_begin_59, x_m_begin_62, x_m_begin_63, x_m_begin_64, x_m_begin_65, x_m_begin_66, x_m_begin_67, x_m_begin_70, x_m_begin_73, x_m_begin_74, x_m_begin_77, x_m_begin_78, x_m_begin_80, x_m_begin_82, x_m_begin_85, x_m_begin_86, x_m_begin_89, x_m_begin_91, x_m_begin_92, x_m_begin_93, x_m_begin_94, x_m_begin_97, x_m_begin_98, x_m_begin_99, x_m_begin_100, x_m_begin_103, x_m_begin_106, x_m_begin_107, x_m_begin_108, x_m_begin_109, x_m_begin_111, x_m_begin_112, x_m_begin_113, x_m_begin_116, x_m_begin_118, x_m_begin_119, x_m_begin_120, x_m_begin_123, x_m_begin_124, x_m_begin_126, x_m_begin_127, x_m_begin_130, x_m_begin_131, x_m_begin_132, x_m_begin_135, x_m_begin_136, x_m_begin_137, x_m_begin_138, x_m_begin_141, x_m_begin_142, x_m_begin_143, x_m_begin_144, x_m_begin_145, x_m_begin_146, x_m_begin_147, x_m_begin_148, x_m_begin_151, x_m_begin_152, x_m_begin_153, x_m_begin_156, x_m_begin_158, x_m_begin_159, x_m_begin_160, x_m_begin_161, x_m_begin_164, x_m_begin_165, x_m_begin_167, x_m_begin_168, x_m_begin_170, x_m_begin_171, x_m_begin_172, x_m_begin_173, x_m_begin_176, x_m_begin_178, x_m_begin_179, x_m_begin_180, x_m_begin_183, x_m_begin_184, x_m_begin_187, x_m_begin_188, x_m_begin_190, x_m_begin_191, x_m_begin_194, x_m_begin_196, x_m_begin_197, x_m_begin_198, x_m_begin_200, x_m_begin_203, x_m_begin_204, x_m_begin_205, x_m_begin_206, x_m_begin_209, x_m_begin_210, x_m_begin_211, x_m_begin_212, x_m_begin_215, x_m_begin_218, x_m_begin_219, x_m_begin_221, x_m_begin_224, x_m_begin_227, q_le, Nat.le_refl, if_true]
      have e33 : stG (bgG G) 9 33 = G 33 + 1 := (st_bg (by omega)).trans (by unfold bgG; rw [up_ne (by decide), up_ne (by decide), up_ne (by decide), up_at])
      have e35 : stG (bgG G) 9 35 = 0 := (st_bg (by omega)).trans (by unfold bgG; rw [up_ne (by decide), up_at])
      have e29 : stG (bgG G) 9 29 = G 29 := (st_bg (by omega)).trans (bgG_ne (by omega))
      refine lp_m_begin3 (G := stG (bgG G) 9) (jv := jv') (t := G 33 + 1) (s0 := z) hB2 (by omega) e33 (fun jv2 h3 h4 => ?_) (G 29) 0 (by rw [e29]; omega) _ _ (fun k hk => ?_) (fun q k hq => rfl)
      · rw [e29] at h3 ⊢
        refine hQ jv2 h3 (fun q k hq1 hq2 => ?_)
        rw [h4 q k hq1, h2 q k hq1, stW_ne hq2, stW_ne hq2, upj_ne hq1, upj_ne hq1, upj_ne hq1, upj_ne hq1]
      · rw [h1 k hk]
        congr 1
        show stG (bgG G) 9 k = up (stG (bgG G) 9) 35 0 k
        by_cases e : k = 35
        · subst e; rw [up_at, e35]
        · rw [up_ne e]
    · rw [stW_ne (by decide), stW_ne (by decide), r4 k hk]
      congr 1
      show bgG G k = stG (bgG G) 0 k
      rw [stG_ne (by omega)]
/-! count -/
def vCount (G : Nat → Nat) (w : Nat) : Int32 := if 3 ≤ w ∧ w ≤ 5 then nI (inK G (w - 3)) else if 10 ≤ w ∧ w ≤ 12 then nI (G (18 + w - 10)) else if 20 ≤ w ∧ w ≤ 22 then nI (G (21 + w - 20)) else if 30 ≤ w ∧ w ≤ 34 then nI (G (24 + w - 30)) else if w = 0 then nI (G 29) else if w = 1 then nI (G 33) else if w = 2 then nI (G 36) else if w = 6 then nI (G 34) else if w = 7 then nI (G 32) else if w = 8 then nI (G 30) else if w = 9 then nI (G 31) else -2
theorem sp_m_count_d {x : Int32} (h : ¬ (0 ≤ x.toInt ∧ x.toInt ≤ 9)) (h1 : ¬ (10 ≤ x.toInt ∧ x.toInt ≤ 12)) (h2 : ¬ (20 ≤ x.toInt ∧ x.toInt ≤ 22)) (h3 : ¬ (30 ≤ x.toInt ∧ x.toInt ≤ 34)) : XM (d + 4) Ym_count [.ref 118, .int x] iv jv Q = Q (some (.int (-2))) (mk iv jv) := by
  have p0 : ¬ (((3 : Nat) : Int) ≤ x.toInt ∧ x.toInt ≤ ((5 : Nat) : Int)) := by omega
  have p1 : ¬ (((10 : Nat) : Int) ≤ x.toInt ∧ x.toInt ≤ ((12 : Nat) : Int)) := h1
  have p2 : ¬ (((20 : Nat) : Int) ≤ x.toInt ∧ x.toInt ≤ ((22 : Nat) : Int)) := h2
  have p3 : ¬ (((30 : Nat) : Int) ≤ x.toInt ∧ x.toInt ≤ ((34 : Nat) : Int)) := h3
  have hd : x.toInt < 0 ∨ 9 < x.toInt := by omega
  simp (disch := first | assumption | omega) only [e_m_count, x_m_count_0, x_m_count_1, x_m_count_2, x_m_count_5, x_m_count_8, x_m_count_11, x_m_count_14, x_m_count_15, x_m_count_16, x_m_count_19, x_m_count_20, x_m_count_21, x_m_count_22, x_m_count_25, x_m_count_26, x_m_count_27, x_m_count_28, x_m_count_31, x_m_count_34, x_m_count_37, x_m_count_40, x_m_count_41, x_m_count_43, x_m_count_44, x_m_count_45, x_m_count_47, x_m_count_48, x_m_count_51, x_m_count_52, x_m_count_53, x_m_count_54, x_m_count_57, x_m_count_60, x_m_count_63, x_m_count_66, x_m_count_67, x_m_count_69, x_m_count_70, x_m_count_71, x_m_count_73, x_m_count_74, x_m_count_77, x_m_count_78, x_m_count_79, x_m_count_80, x_m_count_83, x_m_count_86, x_m_count_89, x_m_count_92, x_m_count_93, x_m_count_95, x_m_count_96, x_m_count_97, x_m_count_99, x_m_count_100, x_m_count_103, x_m_count_104, x_m_count_105_0, x_m_count_105_1, x_m_count_105_2, x_m_count_105_3, x_m_count_105_4, x_m_count_105_5, x_m_count_105_6, x_m_count_105_7, x_m_count_105_8, x_m_count_105_9, x_m_count_160, x_m_count_161, x_m_count_163, x_m_count_166, x_m_count_167, x_m_count_168, x_m_count_170, x_m_count_173, x_m_count_174, x_m_count_175, x_m_count_178, x_m_count_179, x_m_count_180, x_m_count_182, x_m_count_185, x_m_count_186, x_m_count_187, x_m_count_189, x_m_count_192, x_m_count_193, x_m_count_194, x_m_count_196, x_m_count_199, x_m_count_200, x_m_count_201, x_m_count_203, x_m_count_206, x_m_count_207, x_m_count_209, sp_isInI, XK_s, b01_eq0, p0, p1, p2, p3, not_false_eq_true, if_true]
  rw [x_m_count_105_d hd]
  simp (disch := first | assumption | omega) only [x_m_count_0, x_m_count_1, x_m_count_2, x_m_count_5, x_m_count_8, x_m_count_11, x_m_count_14, x_m_count_15, x_m_count_16, x_m_count_19, x_m_count_20, x_m_count_21, x_m_count_22, x_m_count_25, x_m_count_26, x_m_count_27, x_m_count_28, x_m_count_31, x_m_count_34, x_m_count_37, x_m_count_40, x_m_count_41, x_m_count_43, x_m_count_44, x_m_count_45, x_m_count_47, x_m_count_48, x_m_count_51, x_m_count_52, x_m_count_53, x_m_count_54, x_m_count_57, x_m_count_60, x_m_count_63, x_m_count_66, x_m_count_67, x_m_count_69, x_m_count_70, x_m_count_71, x_m_count_73, x_m_count_74, x_m_count_77, x_m_count_78, x_m_count_79, x_m_count_80, x_m_count_83, x_m_count_86, x_m_count_89, x_m_count_92, x_m_count_93, x_m_count_95, x_m_count_96, x_m_count_97, x_m_count_99, x_m_count_100, x_m_count_103, x_m_count_104, x_m_count_105_0, x_m_count_105_1, x_m_count_105_2, x_m_count_105_3, x_m_count_105_4, x_m_count_105_5, x_m_count_105_6, x_m_count_105_7, x_m_count_105_8, x_m_count_105_9, x_m_count_160, x_m_count_161, x_m_count_163, x_m_count_166, x_m_count_167, x_m_count_168, x_m_count_170, x_m_count_173, x_m_count_174, x_m_count_175, x_m_count_178, x_m_count_179, x_m_count_180, x_m_count_182, x_m_count_185, x_m_count_186, x_m_count_187, x_m_count_189, x_m_count_192, x_m_count_193, x_m_count_194, x_m_count_196, x_m_count_199, x_m_count_200, x_m_count_201, x_m_count_203, x_m_count_206, x_m_count_207, x_m_count_209]
theorem sp_m_count {w : Nat} (hw : w < 13 ∨ (20 ≤ w ∧ w ≤ 22) ∨ (30 ≤ w ∧ w ≤ 34)) (hG : ∀ k, k < 101 → jv 119 k = lN (G k)) (hB : IB G) : XM (d + 4) Ym_count [.ref 118, .int (nI w)] iv jv Q = Q (some (.int (vCount G w))) (mk iv jv) := by
  have hA := askB_lt (fun k hk => (hB.2.2.2.2.1 k hk).1) _ hB.2.1
  have q0 := hG 29 (by decide)
  have q1 := hG 33 (by decide)
  have q6 := hG 34 (by decide)
  have q7 := hG 32 (by decide)
  have q8 := hG 30 (by decide)
  have q9 := hG 31 (by decide)
  unfold vCount
  by_cases p0 : 3 ≤ w ∧ w ≤ 5
  · have eK : inA G (askB G (G 36)) (w - 3) (G 29) = inK G (w - 3) := rfl
    simp (disch := first | assumption | omega) only [e_m_count, x_m_count_0, x_m_count_1, x_m_count_2, x_m_count_5, x_m_count_8, x_m_count_11, x_m_count_14, x_m_count_15, x_m_count_16, x_m_count_19, x_m_count_20, x_m_count_21, x_m_count_22, x_m_count_25, x_m_count_26, x_m_count_27, x_m_count_28, x_m_count_31, x_m_count_34, x_m_count_37, x_m_count_40, x_m_count_41, x_m_count_43, x_m_count_44, x_m_count_45, x_m_count_47, x_m_count_48, x_m_count_51, x_m_count_52, x_m_count_53, x_m_count_54, x_m_count_57, x_m_count_60, x_m_count_63, x_m_count_66, x_m_count_67, x_m_count_69, x_m_count_70, x_m_count_71, x_m_count_73, x_m_count_74, x_m_count_77, x_m_count_78, x_m_count_79, x_m_count_80, x_m_count_83, x_m_count_86, x_m_count_89, x_m_count_92, x_m_count_93, x_m_count_95, x_m_count_96, x_m_count_97, x_m_count_99, x_m_count_100, x_m_count_103, x_m_count_104, x_m_count_105_0, x_m_count_105_1, x_m_count_105_2, x_m_count_105_3, x_m_count_105_4, x_m_count_105_5, x_m_count_105_6, x_m_count_105_7, x_m_count_105_8, x_m_count_105_9, x_m_count_160, x_m_count_161, x_m_count_163, x_m_count_166, x_m_count_167, x_m_count_168, x_m_count_170, x_m_count_173, x_m_count_174, x_m_count_175, x_m_count_178, x_m_count_179, x_m_count_180, x_m_count_182, x_m_count_185, x_m_count_186, x_m_count_187, x_m_count_189, x_m_count_192, x_m_count_193, x_m_count_194, x_m_count_196, x_m_count_199, x_m_count_200, x_m_count_201, x_m_count_203, x_m_count_206, x_m_count_207, x_m_count_209, q_i2l, sp_isInN, XK_s, b01_eq0, p0, and_self, not_true_eq_false, if_false, if_true, sp_m_asked hG hB, q_sub, sp_m_inArea hG hB, eK]
  · by_cases p1 : 10 ≤ w ∧ w ≤ 12
    · have g := hG (18 + w - 10) (by omega)
      simp (disch := first | assumption | omega) only [e_m_count, x_m_count_0, x_m_count_1, x_m_count_2, x_m_count_5, x_m_count_8, x_m_count_11, x_m_count_14, x_m_count_15, x_m_count_16, x_m_count_19, x_m_count_20, x_m_count_21, x_m_count_22, x_m_count_25, x_m_count_26, x_m_count_27, x_m_count_28, x_m_count_31, x_m_count_34, x_m_count_37, x_m_count_40, x_m_count_41, x_m_count_43, x_m_count_44, x_m_count_45, x_m_count_47, x_m_count_48, x_m_count_51, x_m_count_52, x_m_count_53, x_m_count_54, x_m_count_57, x_m_count_60, x_m_count_63, x_m_count_66, x_m_count_67, x_m_count_69, x_m_count_70, x_m_count_71, x_m_count_73, x_m_count_74, x_m_count_77, x_m_count_78, x_m_count_79, x_m_count_80, x_m_count_83, x_m_count_86, x_m_count_89, x_m_count_92, x_m_count_93, x_m_count_95, x_m_count_96, x_m_count_97, x_m_count_99, x_m_count_100, x_m_count_103, x_m_count_104, x_m_count_105_0, x_m_count_105_1, x_m_count_105_2, x_m_count_105_3, x_m_count_105_4, x_m_count_105_5, x_m_count_105_6, x_m_count_105_7, x_m_count_105_8, x_m_count_105_9, x_m_count_160, x_m_count_161, x_m_count_163, x_m_count_166, x_m_count_167, x_m_count_168, x_m_count_170, x_m_count_173, x_m_count_174, x_m_count_175, x_m_count_178, x_m_count_179, x_m_count_180, x_m_count_182, x_m_count_185, x_m_count_186, x_m_count_187, x_m_count_189, x_m_count_192, x_m_count_193, x_m_count_194, x_m_count_196, x_m_count_199, x_m_count_200, x_m_count_201, x_m_count_203, x_m_count_206, x_m_count_207, x_m_count_209, q_i2l, sp_isInN, XK_s, b01_eq0, p0, p1, and_self, not_true_eq_false, not_false_eq_true, if_false, if_true, q_add, q_sub, sp_m_get, g, q_l2i]
    · by_cases p2 : 20 ≤ w ∧ w ≤ 22
      · have g := hG (21 + w - 20) (by omega)
        simp (disch := first | assumption | omega) only [e_m_count, x_m_count_0, x_m_count_1, x_m_count_2, x_m_count_5, x_m_count_8, x_m_count_11, x_m_count_14, x_m_count_15, x_m_count_16, x_m_count_19, x_m_count_20, x_m_count_21, x_m_count_22, x_m_count_25, x_m_count_26, x_m_count_27, x_m_count_28, x_m_count_31, x_m_count_34, x_m_count_37, x_m_count_40, x_m_count_41, x_m_count_43, x_m_count_44, x_m_count_45, x_m_count_47, x_m_count_48, x_m_count_51, x_m_count_52, x_m_count_53, x_m_count_54, x_m_count_57, x_m_count_60, x_m_count_63, x_m_count_66, x_m_count_67, x_m_count_69, x_m_count_70, x_m_count_71, x_m_count_73, x_m_count_74, x_m_count_77, x_m_count_78, x_m_count_79, x_m_count_80, x_m_count_83, x_m_count_86, x_m_count_89, x_m_count_92, x_m_count_93, x_m_count_95, x_m_count_96, x_m_count_97, x_m_count_99, x_m_count_100, x_m_count_103, x_m_count_104, x_m_count_105_0, x_m_count_105_1, x_m_count_105_2, x_m_count_105_3, x_m_count_105_4, x_m_count_105_5, x_m_count_105_6, x_m_count_105_7, x_m_count_105_8, x_m_count_105_9, x_m_count_160, x_m_count_161, x_m_count_163, x_m_count_166, x_m_count_167, x_m_count_168, x_m_count_170, x_m_count_173, x_m_count_174, x_m_count_175, x_m_count_178, x_m_count_179, x_m_count_180, x_m_count_182, x_m_count_185, x_m_count_186, x_m_count_187, x_m_count_189, x_m_count_192, x_m_count_193, x_m_count_194, x_m_count_196, x_m_count_199, x_m_count_200, x_m_count_201, x_m_count_203, x_m_count_206, x_m_count_207, x_m_count_209, q_i2l, sp_isInN, XK_s, b01_eq0, p0, p1, p2, and_self, not_true_eq_false, not_false_eq_true, if_false, if_true, q_add, q_sub, sp_m_get, g, q_l2i]
      · by_cases p3 : 30 ≤ w ∧ w ≤ 34
        · have g := hG (24 + w - 30) (by omega)
          simp (disch := first | assumption | omega) only [e_m_count, x_m_count_0, x_m_count_1, x_m_count_2, x_m_count_5, x_m_count_8, x_m_count_11, x_m_count_14, x_m_count_15, x_m_count_16, x_m_count_19, x_m_count_20, x_m_count_21, x_m_count_22, x_m_count_25, x_m_count_26, x_m_count_27, x_m_count_28, x_m_count_31, x_m_count_34, x_m_count_37, x_m_count_40, x_m_count_41, x_m_count_43, x_m_count_44, x_m_count_45, x_m_count_47, x_m_count_48, x_m_count_51, x_m_count_52, x_m_count_53, x_m_count_54, x_m_count_57, x_m_count_60, x_m_count_63, x_m_count_66, x_m_count_67, x_m_count_69, x_m_count_70, x_m_count_71, x_m_count_73, x_m_count_74, x_m_count_77, x_m_count_78, x_m_count_79, x_m_count_80, x_m_count_83, x_m_count_86, x_m_count_89, x_m_count_92, x_m_count_93, x_m_count_95, x_m_count_96, x_m_count_97, x_m_count_99, x_m_count_100, x_m_count_103, x_m_count_104, x_m_count_105_0, x_m_count_105_1, x_m_count_105_2, x_m_count_105_3, x_m_count_105_4, x_m_count_105_5, x_m_count_105_6, x_m_count_105_7, x_m_count_105_8, x_m_count_105_9, x_m_count_160, x_m_count_161, x_m_count_163, x_m_count_166, x_m_count_167, x_m_count_168, x_m_count_170, x_m_count_173, x_m_count_174, x_m_count_175, x_m_count_178, x_m_count_179, x_m_count_180, x_m_count_182, x_m_count_185, x_m_count_186, x_m_count_187, x_m_count_189, x_m_count_192, x_m_count_193, x_m_count_194, x_m_count_196, x_m_count_199, x_m_count_200, x_m_count_201, x_m_count_203, x_m_count_206, x_m_count_207, x_m_count_209, q_i2l, sp_isInN, XK_s, b01_eq0, p0, p1, p2, p3, and_self, not_true_eq_false, not_false_eq_true, if_false, if_true, q_add, q_sub, sp_m_get, g, q_l2i]
        · rw [if_neg p0, if_neg p1, if_neg p2, if_neg p3]
          have hw9 : w = 0 ∨ w = 1 ∨ w = 2 ∨ w = 6 ∨ w = 7 ∨ w = 8 ∨ w = 9 := by omega
          rcases hw9 with rfl | rfl | rfl | rfl | rfl | rfl | rfl <;>
          simp (disch := first | assumption | omega) only [e_m_count, x_m_count_0, x_m_count_1, x_m_count_2, x_m_count_5, x_m_count_8, x_m_count_11, x_m_count_14, x_m_count_15, x_m_count_16, x_m_count_19, x_m_count_20, x_m_count_21, x_m_count_22, x_m_count_25, x_m_count_26, x_m_count_27, x_m_count_28, x_m_count_31, x_m_count_34, x_m_count_37, x_m_count_40, x_m_count_41, x_m_count_43, x_m_count_44, x_m_count_45, x_m_count_47, x_m_count_48, x_m_count_51, x_m_count_52, x_m_count_53, x_m_count_54, x_m_count_57, x_m_count_60, x_m_count_63, x_m_count_66, x_m_count_67, x_m_count_69, x_m_count_70, x_m_count_71, x_m_count_73, x_m_count_74, x_m_count_77, x_m_count_78, x_m_count_79, x_m_count_80, x_m_count_83, x_m_count_86, x_m_count_89, x_m_count_92, x_m_count_93, x_m_count_95, x_m_count_96, x_m_count_97, x_m_count_99, x_m_count_100, x_m_count_103, x_m_count_104, x_m_count_105_0, x_m_count_105_1, x_m_count_105_2, x_m_count_105_3, x_m_count_105_4, x_m_count_105_5, x_m_count_105_6, x_m_count_105_7, x_m_count_105_8, x_m_count_105_9, x_m_count_160, x_m_count_161, x_m_count_163, x_m_count_166, x_m_count_167, x_m_count_168, x_m_count_170, x_m_count_173, x_m_count_174, x_m_count_175, x_m_count_178, x_m_count_179, x_m_count_180, x_m_count_182, x_m_count_185, x_m_count_186, x_m_count_187, x_m_count_189, x_m_count_192, x_m_count_193, x_m_count_194, x_m_count_196, x_m_count_199, x_m_count_200, x_m_count_201, x_m_count_203, x_m_count_206, x_m_count_207, x_m_count_209, q_i2l, sp_isInN, XK_s, b01_eq0, p0, p1, p2, p3, not_false_eq_true, if_true, sp_m_get, q0, q1, q6, q7, q8, q9, q_l2i, sp_m_answers hG, Nat.reduceEqDiff, Nat.one_ne_zero, if_false]
end BEGIN
