section DRAWN
variable {d : Nat} {iv : mI} {jv : mJ} {Q : Option Value → mH → Prop} {G : Nat → Nat} {f : Nat → Nat}
def stz (z : Int32) : Int32 := z * nI 1103515245 + nI 12345
def ush9 (z : Int32) : Int32 := (z.toUInt32 >>> ((nI 9).toUInt32 &&& Int32.toUInt32 31)).toInt32
def lot (z : Int32) (m : Nat) : Int32 := ush9 z - ush9 z / nI m * nI m
def rb (G : Nat → Nat) (i l : Nat) (z : Int32) : Nat := if nI (rgt G i l) ≤ lot z 16 then 0 else 1
def nxI (G : Nat → Nat) : Nat := (nxN G).1 - 1
def nxQ (G : Nat → Nat) : Bool := decide ((scN G).2.2 = false ∧ (scN G).2.1 ≠ 0 ∧ (nxN G).1 ≠ 0)
def goB (G : Nat → Nat) : Bool := decide (stV G = nI 0) && nxQ G
theorem nxQ_iff (G : Nat → Nat) : nxQ G = true ↔ ((scN G).2.2 = false ∧ (scN G).2.1 ≠ 0 ∧ (nxN G).1 ≠ 0) := by unfold nxQ; exact decide_eq_true_iff
theorem nxV_t {G : Nat → Nat} (h : nxQ G = true) : nxV G = nI (nxI G) := by
  obtain ⟨h1, h2, h3⟩ := (nxQ_iff G).mp h
  unfold nxV nxI bo
  rw [if_neg (by rw [h1]; decide), if_neg h2, if_neg h3]
theorem n1m : ((-1 : Int32) < nI 0) = True := by simp; decide
theorem nxV_f {G : Nat → Nat} (h : ¬ nxQ G = true) : (nxV G < nI 0) = True := by
  unfold nxV
  by_cases h1 : (scN G).2.2 = true
  · rw [if_pos h1]; exact n7
  · rw [if_neg h1]
    by_cases h2 : (scN G).2.1 = 0
    · rw [if_pos h2]; exact n8
    · rw [if_neg h2]
      have h3 : (nxN G).1 = 0 := by
        by_cases h3 : (nxN G).1 = 0
        · exact h3
        · exact absurd ((nxQ_iff G).mpr ⟨by simpa using h1, h2, h3⟩) h
      rw [h3, bo_0]; exact n1m
theorem nxI_in {G : Nat → Nat} (h : nxQ G = true) : nxI G < G 29 ∧ (askB G (G 36)).testBit (nxI G) = false := by
  obtain ⟨h1, h2, h3⟩ := (nxQ_iff G).mp h
  obtain ⟨h4, h5⟩ := nxs_bit G _ _ h3
  refine ⟨h5, ?_⟩
  rw [dif_bit] at h4
  simp at h4
  exact h4.2
def drF (l : Nat) : Nat → (Nat → Nat) → Int32 → Nat → Nat × (Nat → Nat)
  | 0, G, _, n => (n, G)
  | m + 1, G, z, n => if goB G = true then drF l m (asG G (nxI G) (rb G (nxI G) l (stz z))) (stz z) (n + 1) else (n, G)
theorem drF_s (l m : Nat) (G : Nat → Nat) (z : Int32) (n : Nat) : drF l (m + 1) G z n = if goB G = true then drF l m (asG G (nxI G) (rb G (nxI G) l (stz z))) (stz z) (n + 1) else (n, G) := rfl
theorem drF_f {l : Nat} {G : Nat → Nat} (h : ¬ goB G = true) (m : Nat) (z : Int32) (n : Nat) : drF l m G z n = (n, G) := by
  cases m with
  | zero => rfl
  | succ m => rw [drF_s, if_neg h]
theorem rb_lt (G : Nat → Nat) (i l : Nat) (z : Int32) : rb G i l z < 2 := by unfold rb; split <;> decide
def FL (iv : mI) (jv : mJ) (iv' : mI) (jv' : mJ) : Prop := (∀ q k, ¬ (q = 118 ∧ (k = 5 ∨ k = 8 ∨ 12 ≤ k)) → iv' q k = iv q k) ∧ (∀ q k, q ≠ 118 → q ≠ 119 → q ≠ 122 → jv' q k = jv q k)
theorem FL_r (iv : mI) (jv : mJ) : FL iv jv iv jv := ⟨fun _ _ _ => rfl, fun _ _ _ _ _ => rfl⟩
theorem FL_t {iv jv iv1 jv1 iv2 jv2} (h : FL iv jv iv1 jv1) (h' : FL iv1 jv1 iv2 jv2) : FL iv jv iv2 jv2 :=
  ⟨fun q k e => (h'.1 q k e).trans (h.1 q k e), fun q k e1 e2 e3 => (h'.2 q k e1 e2 e3).trans (h.2 q k e1 e2 e3)⟩
theorem FL_FR {iv jv iv1 jv1} (h : FR iv jv iv1 jv1) : FL iv jv iv1 jv1 := ⟨h.1, fun q k e1 _ e3 => h.2 q k e1 e3⟩
theorem FL_119 {iv : mI} {jv jv1 : mJ} (h : ∀ q k, q ≠ 119 → jv1 q k = jv q k) : FL iv jv iv jv1 := ⟨fun _ _ _ => rfl, fun q k _ e _ => h q k e⟩
theorem lp_m_draws {l : Nat} {i1 : Int32} (hl : l < 9) : ∀ m (G : Nat → Nat) (z : Int32) (n : Nat) iv1 jv1 u6, (∀ k, k < 101 → jv1 119 k = lN (G k)) → IB G → DS G → nz (wt G 0) → 8 ≤ G 36 + m → n + m ≤ 100 → (∀ i, i < 8 → G (42 + 6 * i) + m ≤ 1000) → FL iv jv iv1 jv1 → (∀ iv' jv' z' u6, FL iv jv iv' jv' → (∀ k, k < 101 → jv' 119 k = lN ((drF l m G z n).2 k)) → IB (drF l m G z n).2 → nz (wt (drF l m G z n).2 0) → XT (d + 9) Ym_draws 109 [.ref 118, .int i1, .int (nI l), .int z', .int (nI (drF l m G z n).1), .int (nI 0), u6] [] iv' jv' Q) → XT (d + 9) Ym_draws 19 [.ref 118, .int i1, .int (nI l), .int z, .int (nI n), .int (nI 1), u6] [] iv1 jv1 Q := by
  intro m
  induction m with
  | zero =>
    intro G z n iv1 jv1 u6 hG hB hD hn h8 hnm hgv hF hQ
    have hgo : ¬ goB G = true := by
      intro h
      have h2 : nxQ G = true := by unfold goB at h; simp at h; exact h.2
      obtain ⟨h3, h4⟩ := nxI_in h2
      have h5 := hB.1
      have := free_36 hB hD (i := nxI G) (by omega) h4
      omega
    have hN : ¬ 1000 ≤ n := by omega
    have ex : ∀ iv' jv' z' u6, FL iv jv iv' jv' → (∀ k, k < 101 → jv' 119 k = lN (G k)) → XT (d + 9) Ym_draws 109 [.ref 118, .int i1, .int (nI l), .int z', .int (nI n), .int (nI 0), u6] [] iv' jv' Q := fun iv' jv' z' u6 h1 h2 => hQ iv' jv' z' u6 h1 h2 hB hn
    rw [x_m_draws_19]
    simp (disch := first | assumption | omega) only [x_m_draws_0, x_m_draws_1, x_m_draws_4, x_m_draws_5, x_m_draws_8, x_m_draws_11, x_m_draws_12, x_m_draws_13, x_m_draws_14, x_m_draws_16, x_m_draws_17, x_m_draws_21, x_m_draws_24, x_m_draws_26, x_m_draws_29, x_m_draws_32, x_m_draws_33, x_m_draws_36, x_m_draws_39, x_m_draws_40, x_m_draws_43, x_m_draws_46, x_m_draws_47, x_m_draws_49, x_m_draws_51, x_m_draws_54, x_m_draws_55, x_m_draws_58, x_m_draws_59, x_m_draws_61, x_m_draws_63, x_m_draws_66, x_m_draws_67, x_m_draws_69, x_m_draws_70, x_m_draws_73, x_m_draws_74, x_m_draws_75, x_m_draws_76, x_m_draws_78, x_m_draws_79, x_m_draws_81, x_m_draws_82, x_m_draws_84, x_m_draws_85, x_m_draws_86, x_m_draws_88, x_m_draws_89, x_m_draws_92, x_m_draws_95, x_m_draws_96, x_m_draws_99, x_m_draws_100, x_m_draws_103, x_m_draws_106, x_m_draws_109, x_m_draws_110, x_m_draws_111, x_m_draws_114, x_m_draws_117, x_m_draws_118, x_m_draws_121, x_m_draws_122, x_m_draws_125, x_m_draws_128, x_m_draws_130, n10, if_false, q_le, hN]
    refine sp_stopsNow hG hB hn (fun iv2 jv2 hF2 => ?_)
    simp (disch := first | assumption | omega) only [XK_s, x_m_draws_0, x_m_draws_1, x_m_draws_4, x_m_draws_5, x_m_draws_8, x_m_draws_11, x_m_draws_12, x_m_draws_13, x_m_draws_14, x_m_draws_16, x_m_draws_17, x_m_draws_21, x_m_draws_24, x_m_draws_26, x_m_draws_29, x_m_draws_32, x_m_draws_33, x_m_draws_36, x_m_draws_39, x_m_draws_40, x_m_draws_43, x_m_draws_46, x_m_draws_47, x_m_draws_49, x_m_draws_51, x_m_draws_54, x_m_draws_55, x_m_draws_58, x_m_draws_59, x_m_draws_61, x_m_draws_63, x_m_draws_66, x_m_draws_67, x_m_draws_69, x_m_draws_70, x_m_draws_73, x_m_draws_74, x_m_draws_75, x_m_draws_76, x_m_draws_78, x_m_draws_79, x_m_draws_81, x_m_draws_82, x_m_draws_84, x_m_draws_85, x_m_draws_86, x_m_draws_88, x_m_draws_89, x_m_draws_92, x_m_draws_95, x_m_draws_96, x_m_draws_99, x_m_draws_100, x_m_draws_103, x_m_draws_106, x_m_draws_109, x_m_draws_110, x_m_draws_111, x_m_draws_114, x_m_draws_117, x_m_draws_118, x_m_draws_121, x_m_draws_122, x_m_draws_125, x_m_draws_128, x_m_draws_130]
    by_cases hs : stV G = nI 0
    · simp only [hs, if_true]
      refine sp_m_nextNow (FR_G hF2 hG) hB hn (fun iv3 jv3 hF3 => ?_)
      have hnx : ¬ nxQ G = true := fun h => hgo (by unfold goB; simp [hs, h])
      simp (disch := first | assumption | omega) only [XK_s, x_m_draws_0, x_m_draws_1, x_m_draws_4, x_m_draws_5, x_m_draws_8, x_m_draws_11, x_m_draws_12, x_m_draws_13, x_m_draws_14, x_m_draws_16, x_m_draws_17, x_m_draws_21, x_m_draws_24, x_m_draws_26, x_m_draws_29, x_m_draws_32, x_m_draws_33, x_m_draws_36, x_m_draws_39, x_m_draws_40, x_m_draws_43, x_m_draws_46, x_m_draws_47, x_m_draws_49, x_m_draws_51, x_m_draws_54, x_m_draws_55, x_m_draws_58, x_m_draws_59, x_m_draws_61, x_m_draws_63, x_m_draws_66, x_m_draws_67, x_m_draws_69, x_m_draws_70, x_m_draws_73, x_m_draws_74, x_m_draws_75, x_m_draws_76, x_m_draws_78, x_m_draws_79, x_m_draws_81, x_m_draws_82, x_m_draws_84, x_m_draws_85, x_m_draws_86, x_m_draws_88, x_m_draws_89, x_m_draws_92, x_m_draws_95, x_m_draws_96, x_m_draws_99, x_m_draws_100, x_m_draws_103, x_m_draws_106, x_m_draws_109, x_m_draws_110, x_m_draws_111, x_m_draws_114, x_m_draws_117, x_m_draws_118, x_m_draws_121, x_m_draws_122, x_m_draws_125, x_m_draws_128, x_m_draws_130, nxV_f hnx, if_true]
      rw [x_m_draws_19]
      simp (disch := first | assumption | omega) only [x_m_draws_0, x_m_draws_1, x_m_draws_4, x_m_draws_5, x_m_draws_8, x_m_draws_11, x_m_draws_12, x_m_draws_13, x_m_draws_14, x_m_draws_16, x_m_draws_17, x_m_draws_21, x_m_draws_24, x_m_draws_26, x_m_draws_29, x_m_draws_32, x_m_draws_33, x_m_draws_36, x_m_draws_39, x_m_draws_40, x_m_draws_43, x_m_draws_46, x_m_draws_47, x_m_draws_49, x_m_draws_51, x_m_draws_54, x_m_draws_55, x_m_draws_58, x_m_draws_59, x_m_draws_61, x_m_draws_63, x_m_draws_66, x_m_draws_67, x_m_draws_69, x_m_draws_70, x_m_draws_73, x_m_draws_74, x_m_draws_75, x_m_draws_76, x_m_draws_78, x_m_draws_79, x_m_draws_81, x_m_draws_82, x_m_draws_84, x_m_draws_85, x_m_draws_86, x_m_draws_88, x_m_draws_89, x_m_draws_92, x_m_draws_95, x_m_draws_96, x_m_draws_99, x_m_draws_100, x_m_draws_103, x_m_draws_106, x_m_draws_109, x_m_draws_110, x_m_draws_111, x_m_draws_114, x_m_draws_117, x_m_draws_118, x_m_draws_121, x_m_draws_122, x_m_draws_125, x_m_draws_128, x_m_draws_130, if_true]
      have hF4 := FL_t hF (FL_FR (FR_t hF2 hF3))
      have := ex iv3 jv3 z (.int (nxV G)) hF4 (FR_G (FR_t hF2 hF3) hG)
      simp (disch := first | assumption | omega) only [x_m_draws_0, x_m_draws_1, x_m_draws_4, x_m_draws_5, x_m_draws_8, x_m_draws_11, x_m_draws_12, x_m_draws_13, x_m_draws_14, x_m_draws_16, x_m_draws_17, x_m_draws_21, x_m_draws_24, x_m_draws_26, x_m_draws_29, x_m_draws_32, x_m_draws_33, x_m_draws_36, x_m_draws_39, x_m_draws_40, x_m_draws_43, x_m_draws_46, x_m_draws_47, x_m_draws_49, x_m_draws_51, x_m_draws_54, x_m_draws_55, x_m_draws_58, x_m_draws_59, x_m_draws_61, x_m_draws_63, x_m_draws_66, x_m_draws_67, x_m_draws_69, x_m_draws_70, x_m_draws_73, x_m_draws_74, x_m_draws_75, x_m_draws_76, x_m_draws_78, x_m_draws_79, x_m_draws_81, x_m_draws_82, x_m_draws_84, x_m_draws_85, x_m_draws_86, x_m_draws_88, x_m_draws_89, x_m_draws_92, x_m_draws_95, x_m_draws_96, x_m_draws_99, x_m_draws_100, x_m_draws_103, x_m_draws_106, x_m_draws_109, x_m_draws_110, x_m_draws_111, x_m_draws_114, x_m_draws_117, x_m_draws_118, x_m_draws_121, x_m_draws_122, x_m_draws_125, x_m_draws_128, x_m_draws_130] at this
      exact this
    · simp only [hs, if_false, n1m, if_true]
      rw [x_m_draws_19]
      simp (disch := first | assumption | omega) only [x_m_draws_0, x_m_draws_1, x_m_draws_4, x_m_draws_5, x_m_draws_8, x_m_draws_11, x_m_draws_12, x_m_draws_13, x_m_draws_14, x_m_draws_16, x_m_draws_17, x_m_draws_21, x_m_draws_24, x_m_draws_26, x_m_draws_29, x_m_draws_32, x_m_draws_33, x_m_draws_36, x_m_draws_39, x_m_draws_40, x_m_draws_43, x_m_draws_46, x_m_draws_47, x_m_draws_49, x_m_draws_51, x_m_draws_54, x_m_draws_55, x_m_draws_58, x_m_draws_59, x_m_draws_61, x_m_draws_63, x_m_draws_66, x_m_draws_67, x_m_draws_69, x_m_draws_70, x_m_draws_73, x_m_draws_74, x_m_draws_75, x_m_draws_76, x_m_draws_78, x_m_draws_79, x_m_draws_81, x_m_draws_82, x_m_draws_84, x_m_draws_85, x_m_draws_86, x_m_draws_88, x_m_draws_89, x_m_draws_92, x_m_draws_95, x_m_draws_96, x_m_draws_99, x_m_draws_100, x_m_draws_103, x_m_draws_106, x_m_draws_109, x_m_draws_110, x_m_draws_111, x_m_draws_114, x_m_draws_117, x_m_draws_118, x_m_draws_121, x_m_draws_122, x_m_draws_125, x_m_draws_128, x_m_draws_130, if_true]
      have hF4 := FL_t hF (FL_FR hF2)
      have := ex iv2 jv2 z (.int (-1)) hF4 (FR_G hF2 hG)
      simp (disch := first | assumption | omega) only [x_m_draws_0, x_m_draws_1, x_m_draws_4, x_m_draws_5, x_m_draws_8, x_m_draws_11, x_m_draws_12, x_m_draws_13, x_m_draws_14, x_m_draws_16, x_m_draws_17, x_m_draws_21, x_m_draws_24, x_m_draws_26, x_m_draws_29, x_m_draws_32, x_m_draws_33, x_m_draws_36, x_m_draws_39, x_m_draws_40, x_m_draws_43, x_m_draws_46, x_m_draws_47, x_m_draws_49, x_m_draws_51, x_m_draws_54, x_m_draws_55, x_m_draws_58, x_m_draws_59, x_m_draws_61, x_m_draws_63, x_m_draws_66, x_m_draws_67, x_m_draws_69, x_m_draws_70, x_m_draws_73, x_m_draws_74, x_m_draws_75, x_m_draws_76, x_m_draws_78, x_m_draws_79, x_m_draws_81, x_m_draws_82, x_m_draws_84, x_m_draws_85, x_m_draws_86, x_m_draws_88, x_m_draws_89, x_m_draws_92, x_m_draws_95, x_m_draws_96, x_m_draws_99, x_m_draws_100, x_m_draws_103, x_m_draws_106, x_m_draws_109, x_m_draws_110, x_m_draws_111, x_m_draws_114, x_m_draws_117, x_m_draws_118, x_m_draws_121, x_m_draws_122, x_m_draws_125, x_m_draws_128, x_m_draws_130] at this
      exact this
  | succ m ih =>
    intro G z n iv1 jv1 u6 hG hB hD hn h8 hnm hgv hF hQ
    have hN : ¬ 1000 ≤ n := by omega
    rw [x_m_draws_19]
    simp (disch := first | assumption | omega) only [x_m_draws_0, x_m_draws_1, x_m_draws_4, x_m_draws_5, x_m_draws_8, x_m_draws_11, x_m_draws_12, x_m_draws_13, x_m_draws_14, x_m_draws_16, x_m_draws_17, x_m_draws_21, x_m_draws_24, x_m_draws_26, x_m_draws_29, x_m_draws_32, x_m_draws_33, x_m_draws_36, x_m_draws_39, x_m_draws_40, x_m_draws_43, x_m_draws_46, x_m_draws_47, x_m_draws_49, x_m_draws_51, x_m_draws_54, x_m_draws_55, x_m_draws_58, x_m_draws_59, x_m_draws_61, x_m_draws_63, x_m_draws_66, x_m_draws_67, x_m_draws_69, x_m_draws_70, x_m_draws_73, x_m_draws_74, x_m_draws_75, x_m_draws_76, x_m_draws_78, x_m_draws_79, x_m_draws_81, x_m_draws_82, x_m_draws_84, x_m_draws_85, x_m_draws_86, x_m_draws_88, x_m_draws_89, x_m_draws_92, x_m_draws_95, x_m_draws_96, x_m_draws_99, x_m_draws_100, x_m_draws_103, x_m_draws_106, x_m_draws_109, x_m_draws_110, x_m_draws_111, x_m_draws_114, x_m_draws_117, x_m_draws_118, x_m_draws_121, x_m_draws_122, x_m_draws_125, x_m_draws_128, x_m_draws_130, n10, if_false, q_le, hN]
    refine sp_stopsNow hG hB hn (fun iv2 jv2 hF2 => ?_)
    simp (disch := first | assumption | omega) only [XK_s, x_m_draws_0, x_m_draws_1, x_m_draws_4, x_m_draws_5, x_m_draws_8, x_m_draws_11, x_m_draws_12, x_m_draws_13, x_m_draws_14, x_m_draws_16, x_m_draws_17, x_m_draws_21, x_m_draws_24, x_m_draws_26, x_m_draws_29, x_m_draws_32, x_m_draws_33, x_m_draws_36, x_m_draws_39, x_m_draws_40, x_m_draws_43, x_m_draws_46, x_m_draws_47, x_m_draws_49, x_m_draws_51, x_m_draws_54, x_m_draws_55, x_m_draws_58, x_m_draws_59, x_m_draws_61, x_m_draws_63, x_m_draws_66, x_m_draws_67, x_m_draws_69, x_m_draws_70, x_m_draws_73, x_m_draws_74, x_m_draws_75, x_m_draws_76, x_m_draws_78, x_m_draws_79, x_m_draws_81, x_m_draws_82, x_m_draws_84, x_m_draws_85, x_m_draws_86, x_m_draws_88, x_m_draws_89, x_m_draws_92, x_m_draws_95, x_m_draws_96, x_m_draws_99, x_m_draws_100, x_m_draws_103, x_m_draws_106, x_m_draws_109, x_m_draws_110, x_m_draws_111, x_m_draws_114, x_m_draws_117, x_m_draws_118, x_m_draws_121, x_m_draws_122, x_m_draws_125, x_m_draws_128, x_m_draws_130]
    by_cases hgo : goB G = true
    · rw [drF_s, if_pos hgo] at hQ
      have hs : stV G = nI 0 := by unfold goB at hgo; simp at hgo; exact hgo.1
      have hnx : nxQ G = true := by unfold goB at hgo; simp at hgo; exact hgo.2
      obtain ⟨hi, hfr⟩ := nxI_in hnx
      have hi8 : nxI G < 8 := by have := hB.1; omega
      have h36 := free_36 hB hD hi8 hfr
      simp only [hs, if_true]
      refine sp_m_nextNow (FR_G hF2 hG) hB hn (fun iv3 jv3 hF3 => ?_)
      have hG3 := FR_G (FR_t hF2 hF3) hG
      have e0 : ¬ nxI G < 0 := by omega
      have h16 : ¬ (nI 16 = 0) := by decide
      simp (disch := first | assumption | omega) only [XK_s, x_m_draws_0, x_m_draws_1, x_m_draws_4, x_m_draws_5, x_m_draws_8, x_m_draws_11, x_m_draws_12, x_m_draws_13, x_m_draws_14, x_m_draws_16, x_m_draws_17, x_m_draws_21, x_m_draws_24, x_m_draws_26, x_m_draws_29, x_m_draws_32, x_m_draws_33, x_m_draws_36, x_m_draws_39, x_m_draws_40, x_m_draws_43, x_m_draws_46, x_m_draws_47, x_m_draws_49, x_m_draws_51, x_m_draws_54, x_m_draws_55, x_m_draws_58, x_m_draws_59, x_m_draws_61, x_m_draws_63, x_m_draws_66, x_m_draws_67, x_m_draws_69, x_m_draws_70, x_m_draws_73, x_m_draws_74, x_m_draws_75, x_m_draws_76, x_m_draws_78, x_m_draws_79, x_m_draws_81, x_m_draws_82, x_m_draws_84, x_m_draws_85, x_m_draws_86, x_m_draws_88, x_m_draws_89, x_m_draws_92, x_m_draws_95, x_m_draws_96, x_m_draws_99, x_m_draws_100, x_m_draws_103, x_m_draws_106, x_m_draws_109, x_m_draws_110, x_m_draws_111, x_m_draws_114, x_m_draws_117, x_m_draws_118, x_m_draws_121, x_m_draws_122, x_m_draws_125, x_m_draws_128, x_m_draws_130, nxV_t hnx, q_lt, e0, if_false, n10, sp_m_rightOf hG3 hB, h16, not_false_eq_true, true_and]
      have fin : XM (d + 9) Ym_asks [.ref 118, .int (nI (nxI G)), .int (nI (rb G (nxI G) l (stz z)))] iv3 jv3 (XK (d + 9) Ym_draws 103 [.ref 118, .int i1, .int (nI l), .int (stz z), .int (nI n), .int (nI 1), .int (nI (nxI G))] [] Q) := by
        refine sp_m_asks hG3 hi8 (rb_lt _ _ _ _) h36 (fun jv4 hG4 hF4 => ?_)
        have hF5 := FL_t (FL_t hF (FL_FR (FR_t hF2 hF3))) (FL_119 (iv := iv3) hF4)
        simp (disch := first | assumption | omega) only [XK_n, x_m_draws_0, x_m_draws_1, x_m_draws_4, x_m_draws_5, x_m_draws_8, x_m_draws_11, x_m_draws_12, x_m_draws_13, x_m_draws_14, x_m_draws_16, x_m_draws_17, x_m_draws_21, x_m_draws_24, x_m_draws_26, x_m_draws_29, x_m_draws_32, x_m_draws_33, x_m_draws_36, x_m_draws_39, x_m_draws_40, x_m_draws_43, x_m_draws_46, x_m_draws_47, x_m_draws_49, x_m_draws_51, x_m_draws_54, x_m_draws_55, x_m_draws_58, x_m_draws_59, x_m_draws_61, x_m_draws_63, x_m_draws_66, x_m_draws_67, x_m_draws_69, x_m_draws_70, x_m_draws_73, x_m_draws_74, x_m_draws_75, x_m_draws_76, x_m_draws_78, x_m_draws_79, x_m_draws_81, x_m_draws_82, x_m_draws_84, x_m_draws_85, x_m_draws_86, x_m_draws_88, x_m_draws_89, x_m_draws_92, x_m_draws_95, x_m_draws_96, x_m_draws_99, x_m_draws_100, x_m_draws_103, x_m_draws_106, x_m_draws_109, x_m_draws_110, x_m_draws_111, x_m_draws_114, x_m_draws_117, x_m_draws_118, x_m_draws_121, x_m_draws_122, x_m_draws_125, x_m_draws_128, x_m_draws_130, q_add]
        refine ih _ (stz z) (n + 1) iv3 jv4 _ hG4 (IB_as hB hi8 (rb_lt _ _ _ _) h36 (by have := hgv (nxI G) hi8; omega)) (DS_as hD hi h36 hi8 hfr) (nz_as hn hi8) (by rw [asG_36]; omega) (by omega) ?_ hF5 hQ
        intro j hj
        by_cases ej : j = nxI G
        · subst ej; rw [asG_g hj]; have := hgv _ hj; omega
        · rw [asG_ne (by omega) (by omega) (by omega) (by omega)]; have := hgv _ hj; omega
      unfold rb at fin
      by_cases hr : nI (rgt G (nxI G) l) ≤ lot (stz z) 16
      · rw [if_pos hr] at fin
        have hr' := hr
        unfold lot ush9 stz at hr'
        simp only [hr', if_true]
        exact fin
      · rw [if_neg hr] at fin
        have hr' := hr
        unfold lot ush9 stz at hr'
        simp only [hr', if_false]
        exact fin
    · rw [drF_s, if_neg hgo] at hQ
      have ex : ∀ iv' jv' z' u6, FL iv jv iv' jv' → (∀ k, k < 101 → jv' 119 k = lN (G k)) → XT (d + 9) Ym_draws 109 [.ref 118, .int i1, .int (nI l), .int z', .int (nI n), .int (nI 0), u6] [] iv' jv' Q := fun iv' jv' z' u6 h1 h2 => hQ iv' jv' z' u6 h1 h2 hB hn
      by_cases hs : stV G = nI 0
      · simp only [hs, if_true]
        refine sp_m_nextNow (FR_G hF2 hG) hB hn (fun iv3 jv3 hF3 => ?_)
        have hnx : ¬ nxQ G = true := fun h => hgo (by unfold goB; simp [hs, h])
        simp (disch := first | assumption | omega) only [XK_s, x_m_draws_0, x_m_draws_1, x_m_draws_4, x_m_draws_5, x_m_draws_8, x_m_draws_11, x_m_draws_12, x_m_draws_13, x_m_draws_14, x_m_draws_16, x_m_draws_17, x_m_draws_21, x_m_draws_24, x_m_draws_26, x_m_draws_29, x_m_draws_32, x_m_draws_33, x_m_draws_36, x_m_draws_39, x_m_draws_40, x_m_draws_43, x_m_draws_46, x_m_draws_47, x_m_draws_49, x_m_draws_51, x_m_draws_54, x_m_draws_55, x_m_draws_58, x_m_draws_59, x_m_draws_61, x_m_draws_63, x_m_draws_66, x_m_draws_67, x_m_draws_69, x_m_draws_70, x_m_draws_73, x_m_draws_74, x_m_draws_75, x_m_draws_76, x_m_draws_78, x_m_draws_79, x_m_draws_81, x_m_draws_82, x_m_draws_84, x_m_draws_85, x_m_draws_86, x_m_draws_88, x_m_draws_89, x_m_draws_92, x_m_draws_95, x_m_draws_96, x_m_draws_99, x_m_draws_100, x_m_draws_103, x_m_draws_106, x_m_draws_109, x_m_draws_110, x_m_draws_111, x_m_draws_114, x_m_draws_117, x_m_draws_118, x_m_draws_121, x_m_draws_122, x_m_draws_125, x_m_draws_128, x_m_draws_130, nxV_f hnx, if_true]
        rw [x_m_draws_19]
        simp (disch := first | assumption | omega) only [x_m_draws_0, x_m_draws_1, x_m_draws_4, x_m_draws_5, x_m_draws_8, x_m_draws_11, x_m_draws_12, x_m_draws_13, x_m_draws_14, x_m_draws_16, x_m_draws_17, x_m_draws_21, x_m_draws_24, x_m_draws_26, x_m_draws_29, x_m_draws_32, x_m_draws_33, x_m_draws_36, x_m_draws_39, x_m_draws_40, x_m_draws_43, x_m_draws_46, x_m_draws_47, x_m_draws_49, x_m_draws_51, x_m_draws_54, x_m_draws_55, x_m_draws_58, x_m_draws_59, x_m_draws_61, x_m_draws_63, x_m_draws_66, x_m_draws_67, x_m_draws_69, x_m_draws_70, x_m_draws_73, x_m_draws_74, x_m_draws_75, x_m_draws_76, x_m_draws_78, x_m_draws_79, x_m_draws_81, x_m_draws_82, x_m_draws_84, x_m_draws_85, x_m_draws_86, x_m_draws_88, x_m_draws_89, x_m_draws_92, x_m_draws_95, x_m_draws_96, x_m_draws_99, x_m_draws_100, x_m_draws_103, x_m_draws_106, x_m_draws_109, x_m_draws_110, x_m_draws_111, x_m_draws_114, x_m_draws_117, x_m_draws_118, x_m_draws_121, x_m_draws_122, x_m_draws_125, x_m_draws_128, x_m_draws_130, if_true]
        have hF4 := FL_t hF (FL_FR (FR_t hF2 hF3))
        have := ex iv3 jv3 z (.int (nxV G)) hF4 (FR_G (FR_t hF2 hF3) hG)
        simp (disch := first | assumption | omega) only [x_m_draws_0, x_m_draws_1, x_m_draws_4, x_m_draws_5, x_m_draws_8, x_m_draws_11, x_m_draws_12, x_m_draws_13, x_m_draws_14, x_m_draws_16, x_m_draws_17, x_m_draws_21, x_m_draws_24, x_m_draws_26, x_m_draws_29, x_m_draws_32, x_m_draws_33, x_m_draws_36, x_m_draws_39, x_m_draws_40, x_m_draws_43, x_m_draws_46, x_m_draws_47, x_m_draws_49, x_m_draws_51, x_m_draws_54, x_m_draws_55, x_m_draws_58, x_m_draws_59, x_m_draws_61, x_m_draws_63, x_m_draws_66, x_m_draws_67, x_m_draws_69, x_m_draws_70, x_m_draws_73, x_m_draws_74, x_m_draws_75, x_m_draws_76, x_m_draws_78, x_m_draws_79, x_m_draws_81, x_m_draws_82, x_m_draws_84, x_m_draws_85, x_m_draws_86, x_m_draws_88, x_m_draws_89, x_m_draws_92, x_m_draws_95, x_m_draws_96, x_m_draws_99, x_m_draws_100, x_m_draws_103, x_m_draws_106, x_m_draws_109, x_m_draws_110, x_m_draws_111, x_m_draws_114, x_m_draws_117, x_m_draws_118, x_m_draws_121, x_m_draws_122, x_m_draws_125, x_m_draws_128, x_m_draws_130] at this
        exact this
      · simp only [hs, if_false, n1m, if_true]
        rw [x_m_draws_19]
        simp (disch := first | assumption | omega) only [x_m_draws_0, x_m_draws_1, x_m_draws_4, x_m_draws_5, x_m_draws_8, x_m_draws_11, x_m_draws_12, x_m_draws_13, x_m_draws_14, x_m_draws_16, x_m_draws_17, x_m_draws_21, x_m_draws_24, x_m_draws_26, x_m_draws_29, x_m_draws_32, x_m_draws_33, x_m_draws_36, x_m_draws_39, x_m_draws_40, x_m_draws_43, x_m_draws_46, x_m_draws_47, x_m_draws_49, x_m_draws_51, x_m_draws_54, x_m_draws_55, x_m_draws_58, x_m_draws_59, x_m_draws_61, x_m_draws_63, x_m_draws_66, x_m_draws_67, x_m_draws_69, x_m_draws_70, x_m_draws_73, x_m_draws_74, x_m_draws_75, x_m_draws_76, x_m_draws_78, x_m_draws_79, x_m_draws_81, x_m_draws_82, x_m_draws_84, x_m_draws_85, x_m_draws_86, x_m_draws_88, x_m_draws_89, x_m_draws_92, x_m_draws_95, x_m_draws_96, x_m_draws_99, x_m_draws_100, x_m_draws_103, x_m_draws_106, x_m_draws_109, x_m_draws_110, x_m_draws_111, x_m_draws_114, x_m_draws_117, x_m_draws_118, x_m_draws_121, x_m_draws_122, x_m_draws_125, x_m_draws_128, x_m_draws_130, if_true]
        have hF4 := FL_t hF (FL_FR hF2)
        have := ex iv2 jv2 z (.int (-1)) hF4 (FR_G hF2 hG)
        simp (disch := first | assumption | omega) only [x_m_draws_0, x_m_draws_1, x_m_draws_4, x_m_draws_5, x_m_draws_8, x_m_draws_11, x_m_draws_12, x_m_draws_13, x_m_draws_14, x_m_draws_16, x_m_draws_17, x_m_draws_21, x_m_draws_24, x_m_draws_26, x_m_draws_29, x_m_draws_32, x_m_draws_33, x_m_draws_36, x_m_draws_39, x_m_draws_40, x_m_draws_43, x_m_draws_46, x_m_draws_47, x_m_draws_49, x_m_draws_51, x_m_draws_54, x_m_draws_55, x_m_draws_58, x_m_draws_59, x_m_draws_61, x_m_draws_63, x_m_draws_66, x_m_draws_67, x_m_draws_69, x_m_draws_70, x_m_draws_73, x_m_draws_74, x_m_draws_75, x_m_draws_76, x_m_draws_78, x_m_draws_79, x_m_draws_81, x_m_draws_82, x_m_draws_84, x_m_draws_85, x_m_draws_86, x_m_draws_88, x_m_draws_89, x_m_draws_92, x_m_draws_95, x_m_draws_96, x_m_draws_99, x_m_draws_100, x_m_draws_103, x_m_draws_106, x_m_draws_109, x_m_draws_110, x_m_draws_111, x_m_draws_114, x_m_draws_117, x_m_draws_118, x_m_draws_121, x_m_draws_122, x_m_draws_125, x_m_draws_128, x_m_draws_130] at this
        exact this
end DRAWN
