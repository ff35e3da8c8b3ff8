section CCOPY
variable {d : Nat} {iv : mI} {jv : mJ} {Q : Option Value → mH → Prop} {G : Nat → Nat} {B v : Nat}
theorem dB {B v : Nat} (hb : isB B) (hv : isB v) (h : v ≠ B) : v + 36 ≤ B ∨ B + 36 ≤ v := by
  rcases hb with rfl | rfl | rfl <;> rcases hv with rfl | rfl | rfl <;> omega
def CpI (v B i : Nat) (iv iv' : mI) : Prop := (∀ j, j < 8 → iv' (B + 12 + 3 * i) j = iv (v + 12 + 3 * i) j) ∧ (∀ l, l < 9 → iv' (B + 12 + 3 * i + 1) l = iv (v + 12 + 3 * i + 1) l) ∧ (∀ l, l < 9 → iv' (B + 12 + 3 * i + 2) l = iv (v + 12 + 3 * i + 2) l)
theorem lp_o_copyFrom (hb : isB B) (hv : isB v) (hvb : v ≠ B) (hc : ∀ i, i < 8 → iv (v + 12 + 3 * i) 6 = nI 0 ∨ iv (v + 12 + 3 * i) 6 = nI 1) (hQ : ∀ iv', (∀ q k, ¬ (B + 12 ≤ q ∧ q < B + 36) → iv' q k = iv q k) → (∀ i, i < 8 → CpI v B i iv iv') → XT (d + 1) Yo_copyFrom 91 [.ref B, .ref v, .int (nI 8)] [] iv' jv Q) : ∀ n i, i + n = 8 → ∀ iv1, (∀ q k, ¬ (B + 12 ≤ q ∧ q < B + 36) → iv1 q k = iv q k) → (∀ j, j < i → CpI v B j iv iv1) → XT (d + 1) Yo_copyFrom 91 [.ref B, .ref v, .int (nI i)] [] iv1 jv Q := by
  obtain ⟨s0, s1, s2, s3, s4, s5, s6, s7, s8, s9, s10, s11⟩ := sB hb
  obtain ⟨r0, r1, r2, r3, r4, r5, r6, r7, r8, r9, r10, r11⟩ := sB hv
  have hdj := dB hb hv hvb
  have hlb := lt_B hb
  have hlv := lt_B hv
  have e18 : ((18 : Nat) = 18 ∨ (18 : Nat) = 19) = True := by simp
  intro n
  induction n with
  | zero =>
    intro i hi iv1 h1 h2
    obtain rfl : i = 8 := by omega
    exact hQ iv1 h1 h2
  | succ n ih =>
    intro i hi iv1 h1 h2
    have h4 : ¬ 8 ≤ i := by omega
    have hi8 : i < 8 := by omega
    obtain ⟨t0, t1, t2⟩ := sI hb hi8
    obtain ⟨z0, z1, z2⟩ := sI hv hi8
    rw [x_o_copyFrom_91]
    simp (disch := first | assumption | omega) only [x_o_copyFrom_0, x_o_copyFrom_1, x_o_copyFrom_4, x_o_copyFrom_5, x_o_copyFrom_6, x_o_copyFrom_9, x_o_copyFrom_10, x_o_copyFrom_12, x_o_copyFrom_15, x_o_copyFrom_16, x_o_copyFrom_19, x_o_copyFrom_20, x_o_copyFrom_21, x_o_copyFrom_24, x_o_copyFrom_25, x_o_copyFrom_26, x_o_copyFrom_29, x_o_copyFrom_30, x_o_copyFrom_33, x_o_copyFrom_34, x_o_copyFrom_35, x_o_copyFrom_38, x_o_copyFrom_39, x_o_copyFrom_40, x_o_copyFrom_43, x_o_copyFrom_44, x_o_copyFrom_47, x_o_copyFrom_48, x_o_copyFrom_49, x_o_copyFrom_52, x_o_copyFrom_53, x_o_copyFrom_54, x_o_copyFrom_57, x_o_copyFrom_58, x_o_copyFrom_59, x_o_copyFrom_62, x_o_copyFrom_65, x_o_copyFrom_66, x_o_copyFrom_67, x_o_copyFrom_70, x_o_copyFrom_73, x_o_copyFrom_74, x_o_copyFrom_75, x_o_copyFrom_78, x_o_copyFrom_81, x_o_copyFrom_82, x_o_copyFrom_83, x_o_copyFrom_86, x_o_copyFrom_89, x_o_copyFrom_90, x_o_copyFrom_92, x_o_copyFrom_94, x_o_copyFrom_97, x_o_copyFrom_98, x_o_copyFrom_101, x_o_copyFrom_102, x_o_copyFrom_103, x_o_copyFrom_104, x_o_copyFrom_107, x_o_copyFrom_108, x_o_copyFrom_109, x_o_copyFrom_112, x_o_copyFrom_115, x_o_copyFrom_118, x_o_copyFrom_119, x_o_copyFrom_120, x_o_copyFrom_123, x_o_copyFrom_126, x_o_copyFrom_127, x_o_copyFrom_130, x_o_copyFrom_131, x_o_copyFrom_132, x_o_copyFrom_135, x_o_copyFrom_136, x_o_copyFrom_137, x_o_copyFrom_140, x_o_copyFrom_141, x_o_copyFrom_142, x_o_copyFrom_145, x_o_copyFrom_148, x_o_copyFrom_149, x_o_copyFrom_152, x_o_copyFrom_153, x_o_copyFrom_156, x_o_copyFrom_159, x_o_copyFrom_160, x_o_copyFrom_163, x_o_copyFrom_164, x_o_copyFrom_165, x_o_copyFrom_168, x_o_copyFrom_169, x_o_copyFrom_171, x_o_copyFrom_174, x_o_copyFrom_175, x_o_copyFrom_176, x_o_copyFrom_179, x_o_copyFrom_182, x_o_copyFrom_183, x_o_copyFrom_186, x_o_copyFrom_187, x_o_copyFrom_188, x_o_copyFrom_191, x_o_copyFrom_192, x_o_copyFrom_194, x_o_copyFrom_197, q_le, h4, if_false, s0, s5, r0, r5, e18, true_and, true_or, q_in, q_tn, rI hb, rI hv, t0]
    refine sp_i_copyFrom t0 t1 t2 z0 z1 z2 (by rw [h1 _ _ (by omega)]; exact hc i hi8) (by omega) (by omega) (fun iv2 hF k1 k2 k3 => ?_)
    simp (disch := first | assumption | omega) only [XK_n, x_o_copyFrom_0, x_o_copyFrom_1, x_o_copyFrom_4, x_o_copyFrom_5, x_o_copyFrom_6, x_o_copyFrom_9, x_o_copyFrom_10, x_o_copyFrom_12, x_o_copyFrom_15, x_o_copyFrom_16, x_o_copyFrom_19, x_o_copyFrom_20, x_o_copyFrom_21, x_o_copyFrom_24, x_o_copyFrom_25, x_o_copyFrom_26, x_o_copyFrom_29, x_o_copyFrom_30, x_o_copyFrom_33, x_o_copyFrom_34, x_o_copyFrom_35, x_o_copyFrom_38, x_o_copyFrom_39, x_o_copyFrom_40, x_o_copyFrom_43, x_o_copyFrom_44, x_o_copyFrom_47, x_o_copyFrom_48, x_o_copyFrom_49, x_o_copyFrom_52, x_o_copyFrom_53, x_o_copyFrom_54, x_o_copyFrom_57, x_o_copyFrom_58, x_o_copyFrom_59, x_o_copyFrom_62, x_o_copyFrom_65, x_o_copyFrom_66, x_o_copyFrom_67, x_o_copyFrom_70, x_o_copyFrom_73, x_o_copyFrom_74, x_o_copyFrom_75, x_o_copyFrom_78, x_o_copyFrom_81, x_o_copyFrom_82, x_o_copyFrom_83, x_o_copyFrom_86, x_o_copyFrom_89, x_o_copyFrom_90, x_o_copyFrom_92, x_o_copyFrom_94, x_o_copyFrom_97, x_o_copyFrom_98, x_o_copyFrom_101, x_o_copyFrom_102, x_o_copyFrom_103, x_o_copyFrom_104, x_o_copyFrom_107, x_o_copyFrom_108, x_o_copyFrom_109, x_o_copyFrom_112, x_o_copyFrom_115, x_o_copyFrom_118, x_o_copyFrom_119, x_o_copyFrom_120, x_o_copyFrom_123, x_o_copyFrom_126, x_o_copyFrom_127, x_o_copyFrom_130, x_o_copyFrom_131, x_o_copyFrom_132, x_o_copyFrom_135, x_o_copyFrom_136, x_o_copyFrom_137, x_o_copyFrom_140, x_o_copyFrom_141, x_o_copyFrom_142, x_o_copyFrom_145, x_o_copyFrom_148, x_o_copyFrom_149, x_o_copyFrom_152, x_o_copyFrom_153, x_o_copyFrom_156, x_o_copyFrom_159, x_o_copyFrom_160, x_o_copyFrom_163, x_o_copyFrom_164, x_o_copyFrom_165, x_o_copyFrom_168, x_o_copyFrom_169, x_o_copyFrom_171, x_o_copyFrom_174, x_o_copyFrom_175, x_o_copyFrom_176, x_o_copyFrom_179, x_o_copyFrom_182, x_o_copyFrom_183, x_o_copyFrom_186, x_o_copyFrom_187, x_o_copyFrom_188, x_o_copyFrom_191, x_o_copyFrom_192, x_o_copyFrom_194, x_o_copyFrom_197, q_add]
    refine ih (i + 1) (by omega) iv2 (fun q k hq => ?_) (fun j hj => ?_)
    · rw [hF q k (by omega) (by omega) (by omega)]; exact h1 q k hq
    · by_cases e : j = i
      · subst e
        refine ⟨fun k hk => ?_, fun k hk => ?_, fun k hk => ?_⟩
        · rw [k1 k hk]; exact h1 _ _ (by omega)
        · rw [k2 k hk]; exact h1 _ _ (by omega)
        · rw [k3 k hk]; exact h1 _ _ (by omega)
      · obtain ⟨m1, m2, m3⟩ := h2 j (by omega)
        refine ⟨fun k hk => ?_, fun k hk => ?_, fun k hk => ?_⟩
        · rw [hF _ _ (by omega) (by omega) (by omega)]; exact m1 k hk
        · rw [hF _ _ (by omega) (by omega) (by omega)]; exact m2 k hk
        · rw [hF _ _ (by omega) (by omega) (by omega)]; exact m3 k hk
theorem CR_copy {iv' : mI} {jv' : mJ} (hC : CR v G iv jv) (hB : IB G) (h0 : iv' B 4 = iv v 4 ∧ iv' B 5 = iv v 5 ∧ iv' B 6 = iv v 6 ∧ iv' B 7 = iv v 7 ∧ iv' B 9 = iv v 9 ∧ iv' B 11 = iv v 11 ∧ iv' B 14 = iv v 14)
    (h1 : ∀ l, l < 9 → iv' (B + 1) l = iv (v + 1) l) (h2 : ∀ a, a < 3 → iv' (B + 2) a = iv (v + 2) a ∧ iv' (B + 3) a = iv (v + 3) a ∧ iv' (B + 6) a = iv (v + 6) a) (h4 : ∀ r, r < 5 → iv' (B + 4) r = iv (v + 4) r) (h9 : ∀ k, k < 8 → iv' (B + 9) k = iv (v + 9) k) (h10 : ∀ k, k < 9 → iv' (B + 10) k = iv (v + 10) k) (hI : ∀ i, i < 8 → CpI v B i iv iv') (hW : WR (B + 7) (WN G) jv') : CR B G iv' jv' := by
  obtain ⟨⟨c4, c5, c6, c7, c9, c11, c14⟩, cp, ca, cb, cw, ck, cm, ci, ch⟩ := hC
  obtain ⟨e4, e5, e6, e7, e9, e11, e14⟩ := h0
  have b1 := hB.1
  have b36 := hB.2.1
  refine ⟨⟨e4.trans c4, e5.trans c5, e6.trans c6, e7.trans c7, e9.trans c9, e11.trans c11, e14.trans c14⟩, fun l hl => (h1 l hl).trans (cp l hl), fun a ha => ⟨(h2 a ha).1.trans (ca a ha).1, (h2 a ha).2.1.trans (ca a ha).2.1, (h2 a ha).2.2.trans (ca a ha).2.2⟩, fun r hr => (h4 r hr).trans (cb r hr), hW, fun k hk => (h9 k (by omega)).trans (ck k hk), fun hon k hk => (h10 k (by omega)).trans (cm hon k hk), fun i hi => ?_, fun i hi => ?_⟩
  · obtain ⟨⟨f0, f1, f2, f3, f4, f5, f6, f7⟩, fr, ft⟩ := ci i hi
    obtain ⟨m1, m2, m3⟩ := hI i (by omega)
    exact ⟨⟨(m1 0 (by decide)).trans f0, (m1 1 (by decide)).trans f1, (m1 2 (by decide)).trans f2, (m1 3 (by decide)).trans f3, (m1 4 (by decide)).trans f4, (m1 5 (by decide)).trans f5, (m1 6 (by decide)).trans f6, (m1 7 (by decide)).trans f7⟩, fun l hl => (m2 l hl).trans (fr l hl), fun l hl => (m3 l hl).trans (ft l hl)⟩
  · obtain ⟨m1, m2, m3⟩ := hI i hi
    rw [m1 6 (by decide)]; exact ch i hi
set_option maxHeartbeats 1000000 in
theorem sp_o_copyFrom (hb : isB B) (hv : isB v) (hvb : v ≠ B) (hC : CR v G iv jv) (hB : IB G) (hQ : ∀ iv' jv', FB B iv jv iv' jv' → CR B G iv' jv' → Q none (mk iv' jv')) : XM (d + 2) Yo_copyFrom [.ref B, .ref v] iv jv Q := by
  obtain ⟨⟨c4, c5, c6, c7, c9, c11, c14⟩, cp, ca, cb, cw, ck, cm, ci, ch⟩ := id hC
  obtain ⟨s0, s1, s2, s3, s4, s5, s6, s7, s8, s9, s10, s11⟩ := sB hb
  obtain ⟨r0, r1, r2, r3, r4, r5, r6, r7, r8, r9, r10, r11⟩ := sB hv
  have hdj := dB hb hv hvb
  have hlb := lt_B hb
  have hlv := lt_B hv
  have n0 : ¬ (nI 0 < 0) := by decide
  have n3 : ¬ (nI 3 < 0) := by decide
  have n5 : ¬ (nI 5 < 0) := by decide
  have n8 : ¬ (nI 8 < 0) := by decide
  have n9 : ¬ (nI 9 < 0) := by decide
  have b34 : G 34 ≤ 1 := hB.2.2.2.2.2.2.2.2.2.2.2.2
  have h11 : (iv v 11 = nI 0 ∨ iv v 11 = nI 1) = True := by
    rw [c11]; apply eq_true
    have : G 34 = 0 ∨ G 34 = 1 := by omega
    rcases this with h | h <;> rw [h]
    · exact Or.inl rfl
    · exact Or.inr rfl
  have k1 : (shp (B + 1)).1 = 16 := by rw [s1]
  have k2 : (shp (B + 2)).1 = 16 := by rw [s2]
  have k3 : (shp (B + 3)).1 = 16 := by rw [s3]
  have k4 : (shp (B + 4)).1 = 16 := by rw [s4]
  have k6 : (shp (B + 6)).1 = 16 := by rw [s6]
  have k9 : (shp (B + 9)).1 = 16 := by rw [s9]
  have k10 : (shp (B + 10)).1 = 16 := by rw [s10]
  simp (disch := first | assumption | omega) only [e_o_copyFrom, x_o_copyFrom_0, x_o_copyFrom_1, x_o_copyFrom_4, x_o_copyFrom_5, x_o_copyFrom_6, x_o_copyFrom_9, x_o_copyFrom_10, x_o_copyFrom_12, x_o_copyFrom_15, x_o_copyFrom_16, x_o_copyFrom_19, x_o_copyFrom_20, x_o_copyFrom_21, x_o_copyFrom_24, x_o_copyFrom_25, x_o_copyFrom_26, x_o_copyFrom_29, x_o_copyFrom_30, x_o_copyFrom_33, x_o_copyFrom_34, x_o_copyFrom_35, x_o_copyFrom_38, x_o_copyFrom_39, x_o_copyFrom_40, x_o_copyFrom_43, x_o_copyFrom_44, x_o_copyFrom_47, x_o_copyFrom_48, x_o_copyFrom_49, x_o_copyFrom_52, x_o_copyFrom_53, x_o_copyFrom_54, x_o_copyFrom_57, x_o_copyFrom_58, x_o_copyFrom_59, x_o_copyFrom_62, x_o_copyFrom_65, x_o_copyFrom_66, x_o_copyFrom_67, x_o_copyFrom_70, x_o_copyFrom_73, x_o_copyFrom_74, x_o_copyFrom_75, x_o_copyFrom_78, x_o_copyFrom_81, x_o_copyFrom_82, x_o_copyFrom_83, x_o_copyFrom_86, x_o_copyFrom_89, x_o_copyFrom_90, x_o_copyFrom_92, x_o_copyFrom_94, x_o_copyFrom_97, x_o_copyFrom_98, x_o_copyFrom_101, x_o_copyFrom_102, x_o_copyFrom_103, x_o_copyFrom_104, x_o_copyFrom_107, x_o_copyFrom_108, x_o_copyFrom_109, x_o_copyFrom_112, x_o_copyFrom_115, x_o_copyFrom_118, x_o_copyFrom_119, x_o_copyFrom_120, x_o_copyFrom_123, x_o_copyFrom_126, x_o_copyFrom_127, x_o_copyFrom_130, x_o_copyFrom_131, x_o_copyFrom_132, x_o_copyFrom_135, x_o_copyFrom_136, x_o_copyFrom_137, x_o_copyFrom_140, x_o_copyFrom_141, x_o_copyFrom_142, x_o_copyFrom_145, x_o_copyFrom_148, x_o_copyFrom_149, x_o_copyFrom_152, x_o_copyFrom_153, x_o_copyFrom_156, x_o_copyFrom_159, x_o_copyFrom_160, x_o_copyFrom_163, x_o_copyFrom_164, x_o_copyFrom_165, x_o_copyFrom_168, x_o_copyFrom_169, x_o_copyFrom_171, x_o_copyFrom_174, x_o_copyFrom_175, x_o_copyFrom_176, x_o_copyFrom_179, x_o_copyFrom_182, x_o_copyFrom_183, x_o_copyFrom_186, x_o_copyFrom_187, x_o_copyFrom_188, x_o_copyFrom_191, x_o_copyFrom_192, x_o_copyFrom_194, x_o_copyFrom_197, s0, s1, s2, s3, s4, r0, r1, r2, r3, r4, n0, n3, n5, n9, q_tn, Nat.zero_add, Nat.le_refl, not_false_eq_true, true_and, upi_ne, cpi_ne]
  refine lp_o_copyFrom (d := d) hb hv hvb (fun i hi => ?_) (fun iv1 hF hI => ?_) 8 0 (by omega) _ (fun _ _ _ => rfl) (fun j hj => absurd hj (by omega))
  · rw [upi_ne (by omega), upi_ne (by omega), upi_ne (by omega), upi_ne (by omega), cpi_ne (by omega), cpi_ne (by omega), cpi_ne (by omega), cpi_ne (by omega)]
    exact ch i hi
  · rw [x_o_copyFrom_91]
    simp (disch := first | assumption | omega) only [x_o_copyFrom_0, x_o_copyFrom_1, x_o_copyFrom_4, x_o_copyFrom_5, x_o_copyFrom_6, x_o_copyFrom_9, x_o_copyFrom_10, x_o_copyFrom_12, x_o_copyFrom_15, x_o_copyFrom_16, x_o_copyFrom_19, x_o_copyFrom_20, x_o_copyFrom_21, x_o_copyFrom_24, x_o_copyFrom_25, x_o_copyFrom_26, x_o_copyFrom_29, x_o_copyFrom_30, x_o_copyFrom_33, x_o_copyFrom_34, x_o_copyFrom_35, x_o_copyFrom_38, x_o_copyFrom_39, x_o_copyFrom_40, x_o_copyFrom_43, x_o_copyFrom_44, x_o_copyFrom_47, x_o_copyFrom_48, x_o_copyFrom_49, x_o_copyFrom_52, x_o_copyFrom_53, x_o_copyFrom_54, x_o_copyFrom_57, x_o_copyFrom_58, x_o_copyFrom_59, x_o_copyFrom_62, x_o_copyFrom_65, x_o_copyFrom_66, x_o_copyFrom_67, x_o_copyFrom_70, x_o_copyFrom_73, x_o_copyFrom_74, x_o_copyFrom_75, x_o_copyFrom_78, x_o_copyFrom_81, x_o_copyFrom_82, x_o_copyFrom_83, x_o_copyFrom_86, x_o_copyFrom_89, x_o_copyFrom_90, x_o_copyFrom_92, x_o_copyFrom_94, x_o_copyFrom_97, x_o_copyFrom_98, x_o_copyFrom_101, x_o_copyFrom_102, x_o_copyFrom_103, x_o_copyFrom_104, x_o_copyFrom_107, x_o_copyFrom_108, x_o_copyFrom_109, x_o_copyFrom_112, x_o_copyFrom_115, x_o_copyFrom_118, x_o_copyFrom_119, x_o_copyFrom_120, x_o_copyFrom_123, x_o_copyFrom_126, x_o_copyFrom_127, x_o_copyFrom_130, x_o_copyFrom_131, x_o_copyFrom_132, x_o_copyFrom_135, x_o_copyFrom_136, x_o_copyFrom_137, x_o_copyFrom_140, x_o_copyFrom_141, x_o_copyFrom_142, x_o_copyFrom_145, x_o_copyFrom_148, x_o_copyFrom_149, x_o_copyFrom_152, x_o_copyFrom_153, x_o_copyFrom_156, x_o_copyFrom_159, x_o_copyFrom_160, x_o_copyFrom_163, x_o_copyFrom_164, x_o_copyFrom_165, x_o_copyFrom_168, x_o_copyFrom_169, x_o_copyFrom_171, x_o_copyFrom_174, x_o_copyFrom_175, x_o_copyFrom_176, x_o_copyFrom_179, x_o_copyFrom_182, x_o_copyFrom_183, x_o_copyFrom_186, x_o_copyFrom_187, x_o_copyFrom_188, x_o_copyFrom_191, x_o_copyFrom_192, x_o_copyFrom_194, x_o_copyFrom_197, q_le, Nat.le_refl, if_true, s0, s6, s7, r0, r6, r7, n0, n3, n9, q_tn, Nat.zero_add, not_false_eq_true, true_and, hF, upi_ne, cpi_ne, h11]
    refine sp_w_copyFrom (f := WN G) s7 s8 r7 r8 (by omega) (by omega) cw (fun jv' hJ hW => ?_)
    simp (disch := first | assumption | omega) only [XK_n, x_o_copyFrom_0, x_o_copyFrom_1, x_o_copyFrom_4, x_o_copyFrom_5, x_o_copyFrom_6, x_o_copyFrom_9, x_o_copyFrom_10, x_o_copyFrom_12, x_o_copyFrom_15, x_o_copyFrom_16, x_o_copyFrom_19, x_o_copyFrom_20, x_o_copyFrom_21, x_o_copyFrom_24, x_o_copyFrom_25, x_o_copyFrom_26, x_o_copyFrom_29, x_o_copyFrom_30, x_o_copyFrom_33, x_o_copyFrom_34, x_o_copyFrom_35, x_o_copyFrom_38, x_o_copyFrom_39, x_o_copyFrom_40, x_o_copyFrom_43, x_o_copyFrom_44, x_o_copyFrom_47, x_o_copyFrom_48, x_o_copyFrom_49, x_o_copyFrom_52, x_o_copyFrom_53, x_o_copyFrom_54, x_o_copyFrom_57, x_o_copyFrom_58, x_o_copyFrom_59, x_o_copyFrom_62, x_o_copyFrom_65, x_o_copyFrom_66, x_o_copyFrom_67, x_o_copyFrom_70, x_o_copyFrom_73, x_o_copyFrom_74, x_o_copyFrom_75, x_o_copyFrom_78, x_o_copyFrom_81, x_o_copyFrom_82, x_o_copyFrom_83, x_o_copyFrom_86, x_o_copyFrom_89, x_o_copyFrom_90, x_o_copyFrom_92, x_o_copyFrom_94, x_o_copyFrom_97, x_o_copyFrom_98, x_o_copyFrom_101, x_o_copyFrom_102, x_o_copyFrom_103, x_o_copyFrom_104, x_o_copyFrom_107, x_o_copyFrom_108, x_o_copyFrom_109, x_o_copyFrom_112, x_o_copyFrom_115, x_o_copyFrom_118, x_o_copyFrom_119, x_o_copyFrom_120, x_o_copyFrom_123, x_o_copyFrom_126, x_o_copyFrom_127, x_o_copyFrom_130, x_o_copyFrom_131, x_o_copyFrom_132, x_o_copyFrom_135, x_o_copyFrom_136, x_o_copyFrom_137, x_o_copyFrom_140, x_o_copyFrom_141, x_o_copyFrom_142, x_o_copyFrom_145, x_o_copyFrom_148, x_o_copyFrom_149, x_o_copyFrom_152, x_o_copyFrom_153, x_o_copyFrom_156, x_o_copyFrom_159, x_o_copyFrom_160, x_o_copyFrom_163, x_o_copyFrom_164, x_o_copyFrom_165, x_o_copyFrom_168, x_o_copyFrom_169, x_o_copyFrom_171, x_o_copyFrom_174, x_o_copyFrom_175, x_o_copyFrom_176, x_o_copyFrom_179, x_o_copyFrom_182, x_o_copyFrom_183, x_o_copyFrom_186, x_o_copyFrom_187, x_o_copyFrom_188, x_o_copyFrom_191, x_o_copyFrom_192, x_o_copyFrom_194, x_o_copyFrom_197, s0, s9, s10, r0, r9, r10, n0, n8, n9, q_tn, Nat.zero_add, Nat.le_refl, not_false_eq_true, true_and, hF, upi_ne, cpi_ne]
    refine hQ _ _ ⟨fun q k hq => ?_, (FJ_FB (iv := iv) hJ).2⟩ (CR_copy hC hB ⟨?_, ?_, ?_, ?_, ?_, ?_, ?_⟩ (fun l hl => ?_) (fun a ha => ⟨?_, ?_, ?_⟩) (fun r hr => ?_) (fun k hk => ?_) (fun k hk => ?_) (fun i hi => ⟨fun j hj => ?_, fun j hj => ?_, fun j hj => ?_⟩) hW)
    all_goals first
      | (simp (disch := first | assumption | omega) only [upi_ne, upi_at, cpi_ne, cpi_at, hF])
      | skip
    · obtain ⟨m1, m2, m3⟩ := hI i hi
      simp (disch := first | assumption | omega) only [upi_ne, upi_at, cpi_ne, cpi_at, hF, m1]
    · obtain ⟨m1, m2, m3⟩ := hI i hi
      simp (disch := first | assumption | omega) only [upi_ne, upi_at, cpi_ne, cpi_at, hF, m2]
    · obtain ⟨m1, m2, m3⟩ := hI i hi
      simp (disch := first | assumption | omega) only [upi_ne, upi_at, cpi_ne, cpi_at, hF, m3]
end CCOPY
