section GOON
variable {d : Nat} {iv : mI} {jv : mJ} {Q : Option Value → mH → Prop} {G : Nat → Nat} {B v : Nat}
theorem goB_iff (G : Nat → Nat) : goB G = true ↔ (stV G = nI 0 ∧ nxQ G = true) := by
  unfold goB; rw [Bool.and_eq_true, decide_eq_true_eq]
theorem goB_36 (hB : IB G) (hD : DS G) (h : goB G = true) : G 36 < 8 := by
  obtain ⟨h3, h4⟩ := nxI_in ((goB_iff G).mp h).2
  have h5 := hB.1
  exact free_36 hB hD (i := nxI G) (by omega) h4
theorem drF_more (l : Nat) : ∀ m (G : Nat → Nat) (z : Int32) (n : Nat), IB G → DS G → 8 ≤ G 36 + m → (∀ i, i < 8 → G (42 + 6 * i) + m ≤ 1000) → drF l (m + 1) G z n = drF l m G z n := by
  intro m
  induction m with
  | zero =>
    intro G z n hB hD h8 hg
    rw [drF_s, if_neg (fun h => by have := goB_36 hB hD h; omega)]; rfl
  | succ m ih =>
    intro G z n hB hD h8 hg
    rw [drF_s l (m + 1) G z n, drF_s l m G z n]
    by_cases h : goB G = true
    · rw [if_pos h, if_pos h]
      obtain ⟨h3, h4⟩ := nxI_in ((goB_iff G).mp h).2
      have h5 := hB.1
      have h36 := goB_36 hB hD h
      refine ih _ _ _ (IB_as hB (by omega) (rb_lt _ _ _ _) h36 (by have := hg (nxI G) (by omega); omega)) (DS_as hD h3 h36 (by omega) h4) (by rw [asG_36]; omega) (fun i hi => ?_)
      by_cases ej : i = nxI G
      · subst ej; rw [asG_g hi]; have := hg _ hi; omega
      · rw [asG_ne (by omega) (by omega) (by omega) (by omega)]; have := hg _ hi; omega
    · rw [if_neg h, if_neg h]
theorem lp_o_goOn {l g0 : Nat} {s : Int32} (hb : isB B) (hl : l < 9) (hg0 : g0 ≤ 8) : ∀ m (G : Nat → Nat) (z : Int32) (n : Nat) iv1 jv1 u7, CR B G iv1 jv1 → IB G → DS G → nz (wt G 0) → G 34 = 1 → m ≤ 8 → G 36 = g0 + n → (∀ i, i < 8 → G (42 + 6 * i) + m ≤ 1000) → FB B iv jv iv1 jv1 → (∀ iv' jv', FB B iv jv iv' jv' → CR B (drF l m G z n).2 iv' jv' → IB (drF l m G z n).2 → Q (some (.int (nI (drF l m G z n).1))) (mk iv' jv')) → XT (d + 5) Yo_goOnFrom 17 [.ref B, .ref v, .int s, .int (nI l), .int (nI g0), .int z, .int (nI (8 - m)), u7] [] iv1 jv1 Q := by
  obtain ⟨s0, s1, s2, s3, s4, s5, s6, s7, s8, s9, s10, s11⟩ := sB hb
  have e18 : ((18 : Nat) = 18 ∨ (18 : Nat) = 19) = True := by simp
  have hlb := lt_B hb
  intro m
  induction m with
  | zero =>
    intro G z n iv1 jv1 u7 hC hB hD hn hon hm h36 hgv hF hQ
    have c14 := hC.1.2.2.2.2.2.2
    have hQ := hQ iv1 jv1 hF hC hB
    rw [x_o_goOnFrom_17]
    simp (disch := first | assumption | omega) only [x_o_goOnFrom_0, x_o_goOnFrom_1, x_o_goOnFrom_2, x_o_goOnFrom_5, x_o_goOnFrom_6, x_o_goOnFrom_9, x_o_goOnFrom_11, x_o_goOnFrom_12, x_o_goOnFrom_14, x_o_goOnFrom_15, x_o_goOnFrom_19, x_o_goOnFrom_21, x_o_goOnFrom_24, x_o_goOnFrom_25, x_o_goOnFrom_28, x_o_goOnFrom_31, x_o_goOnFrom_32, x_o_goOnFrom_35, x_o_goOnFrom_37, x_o_goOnFrom_39, x_o_goOnFrom_42, x_o_goOnFrom_45, x_o_goOnFrom_47, x_o_goOnFrom_50, x_o_goOnFrom_52, x_o_goOnFrom_53, x_o_goOnFrom_55, x_o_goOnFrom_57, x_o_goOnFrom_59, x_o_goOnFrom_60, x_o_goOnFrom_62, x_o_goOnFrom_63, x_o_goOnFrom_64, x_o_goOnFrom_67, x_o_goOnFrom_69, x_o_goOnFrom_70, x_o_goOnFrom_73, x_o_goOnFrom_74, x_o_goOnFrom_75, x_o_goOnFrom_78, x_o_goOnFrom_79, x_o_goOnFrom_82, x_o_goOnFrom_83, x_o_goOnFrom_86, x_o_goOnFrom_89, x_o_goOnFrom_92, x_o_goOnFrom_93, x_o_goOnFrom_96, x_o_goOnFrom_98, x_o_goOnFrom_99, Nat.sub_zero, q_le, Nat.le_refl, if_true, s0, true_and, c14, h36, q_sub, Nat.add_sub_cancel_left]
    exact hQ
  | succ m ih =>
    intro G z n iv1 jv1 u7 hC hB hD hn hon hm h36 hgv hF hQ
    have c14 := hC.1.2.2.2.2.2.2
    have h4 : ¬ 8 ≤ 8 - (m + 1) := by omega
    have hov := fun (Q : Option Value → mH → Prop) => sp_o_isOver (d := d) (Q := Q) hb hC hB hon
    rw [drF_s] at hQ
    rw [x_o_goOnFrom_17]
    by_cases p1 : stV G = nI 0
    · simp (disch := first | assumption | omega) only [x_o_goOnFrom_0, x_o_goOnFrom_1, x_o_goOnFrom_2, x_o_goOnFrom_5, x_o_goOnFrom_6, x_o_goOnFrom_9, x_o_goOnFrom_11, x_o_goOnFrom_12, x_o_goOnFrom_14, x_o_goOnFrom_15, x_o_goOnFrom_19, x_o_goOnFrom_21, x_o_goOnFrom_24, x_o_goOnFrom_25, x_o_goOnFrom_28, x_o_goOnFrom_31, x_o_goOnFrom_32, x_o_goOnFrom_35, x_o_goOnFrom_37, x_o_goOnFrom_39, x_o_goOnFrom_42, x_o_goOnFrom_45, x_o_goOnFrom_47, x_o_goOnFrom_50, x_o_goOnFrom_52, x_o_goOnFrom_53, x_o_goOnFrom_55, x_o_goOnFrom_57, x_o_goOnFrom_59, x_o_goOnFrom_60, x_o_goOnFrom_62, x_o_goOnFrom_63, x_o_goOnFrom_64, x_o_goOnFrom_67, x_o_goOnFrom_69, x_o_goOnFrom_70, x_o_goOnFrom_73, x_o_goOnFrom_74, x_o_goOnFrom_75, x_o_goOnFrom_78, x_o_goOnFrom_79, x_o_goOnFrom_82, x_o_goOnFrom_83, x_o_goOnFrom_86, x_o_goOnFrom_89, x_o_goOnFrom_92, x_o_goOnFrom_93, x_o_goOnFrom_96, x_o_goOnFrom_98, x_o_goOnFrom_99, q_le, h4, if_false, s0, true_and, hov, XK_s, p1, if_true]
      refine sp_o_bestItem hb hC hB hD (fun jv2 h2 => ?_)
      have hC2 := CR_11 hC h2
      have hF2 := FB_t hF (FB_11 (iv := iv1) h2)
      by_cases p2 : nxQ G = true
      · have hgo : goB G = true := (goB_iff G).mpr ⟨p1, p2⟩
        obtain ⟨hi, hfr⟩ := nxI_in p2
        have h36' := goB_36 hB hD hgo
        have b1 := hB.1
        have hi8 : nxI G < 8 := by omega
        obtain ⟨t0, t1, t2⟩ := sI hb hi8
        have fr := (hC2.2.2.2.2.2.2.2.1 (nxI G) hi).2.1 l hl
        have n1 : (B + 12 + 3 * nxI G + 1 = 1001) = False := by apply eq_false; omega
        have e0 : ¬ nxI G < 0 := by omega
        have h16 : ¬ (nI 16 = 0) := by decide
        rw [if_pos hgo] at hQ
        have fin : XM (d + 5) Yo_ask [.ref B, .int (nI (nxI G)), .int (nI (rb G (nxI G) l (stz z)))] iv1 jv2 (XK (d + 5) Yo_goOnFrom 86 [.ref B, .ref v, .int s, .int (nI l), .int (nI g0), .int (stz z), .int (nI (8 - (m + 1))), .int (nI (nxI G))] [] Q) := by
          refine sp_o_ask hb hC2 hB hD hn hi (rb_lt _ _ _ _) h36' hfr (fun iv3 jv3 hF3 hC3 => ?_)
          have e8 : 8 - (m + 1) + 1 = 8 - m := by omega
          simp (disch := first | assumption | omega) only [XK_n, x_o_goOnFrom_0, x_o_goOnFrom_1, x_o_goOnFrom_2, x_o_goOnFrom_5, x_o_goOnFrom_6, x_o_goOnFrom_9, x_o_goOnFrom_11, x_o_goOnFrom_12, x_o_goOnFrom_14, x_o_goOnFrom_15, x_o_goOnFrom_19, x_o_goOnFrom_21, x_o_goOnFrom_24, x_o_goOnFrom_25, x_o_goOnFrom_28, x_o_goOnFrom_31, x_o_goOnFrom_32, x_o_goOnFrom_35, x_o_goOnFrom_37, x_o_goOnFrom_39, x_o_goOnFrom_42, x_o_goOnFrom_45, x_o_goOnFrom_47, x_o_goOnFrom_50, x_o_goOnFrom_52, x_o_goOnFrom_53, x_o_goOnFrom_55, x_o_goOnFrom_57, x_o_goOnFrom_59, x_o_goOnFrom_60, x_o_goOnFrom_62, x_o_goOnFrom_63, x_o_goOnFrom_64, x_o_goOnFrom_67, x_o_goOnFrom_69, x_o_goOnFrom_70, x_o_goOnFrom_73, x_o_goOnFrom_74, x_o_goOnFrom_75, x_o_goOnFrom_78, x_o_goOnFrom_79, x_o_goOnFrom_82, x_o_goOnFrom_83, x_o_goOnFrom_86, x_o_goOnFrom_89, x_o_goOnFrom_92, x_o_goOnFrom_93, x_o_goOnFrom_96, x_o_goOnFrom_98, x_o_goOnFrom_99, q_add, e8]
          refine ih _ (stz z) (n + 1) iv3 jv3 _ hC3 (IB_as hB hi8 (rb_lt _ _ _ _) h36' (by have := hgv (nxI G) hi8; omega)) (DS_as hD hi h36' hi8 hfr) (nz_as hn hi8) ?_ (by omega) (by rw [asG_36]; omega) (fun i hi => ?_) (FB_t hF2 hF3) hQ
          · rw [asG_ne (by omega) (by omega) (by omega) (by omega)]; exact hon
          · by_cases ej : i = nxI G
            · subst ej; rw [asG_g hi]; have := hgv _ hi; omega
            · rw [asG_ne (by omega) (by omega) (by omega) (by omega)]; have := hgv _ hi; omega
        have fr' : iv1 (B + 12 + 3 * nxI G + 1) l = nI (rgt G (nxI G) l) := fr
        simp (disch := first | assumption | omega) only [XK_s, x_o_goOnFrom_0, x_o_goOnFrom_1, x_o_goOnFrom_2, x_o_goOnFrom_5, x_o_goOnFrom_6, x_o_goOnFrom_9, x_o_goOnFrom_11, x_o_goOnFrom_12, x_o_goOnFrom_14, x_o_goOnFrom_15, x_o_goOnFrom_19, x_o_goOnFrom_21, x_o_goOnFrom_24, x_o_goOnFrom_25, x_o_goOnFrom_28, x_o_goOnFrom_31, x_o_goOnFrom_32, x_o_goOnFrom_35, x_o_goOnFrom_37, x_o_goOnFrom_39, x_o_goOnFrom_42, x_o_goOnFrom_45, x_o_goOnFrom_47, x_o_goOnFrom_50, x_o_goOnFrom_52, x_o_goOnFrom_53, x_o_goOnFrom_55, x_o_goOnFrom_57, x_o_goOnFrom_59, x_o_goOnFrom_60, x_o_goOnFrom_62, x_o_goOnFrom_63, x_o_goOnFrom_64, x_o_goOnFrom_67, x_o_goOnFrom_69, x_o_goOnFrom_70, x_o_goOnFrom_73, x_o_goOnFrom_74, x_o_goOnFrom_75, x_o_goOnFrom_78, x_o_goOnFrom_79, x_o_goOnFrom_82, x_o_goOnFrom_83, x_o_goOnFrom_86, x_o_goOnFrom_89, x_o_goOnFrom_92, x_o_goOnFrom_93, x_o_goOnFrom_96, x_o_goOnFrom_98, x_o_goOnFrom_99, nxV_t p2, q_le, Nat.zero_le, if_true, sp_t_stir, s0, s5, e18, true_and, true_or, q_in, q_tn, rI hb, t0, t1, n1, if_false, fr', h16, not_false_eq_true]
        unfold rb at fin
        by_cases hr : nI (rgt G (nxI G) l) ≤ lot (stz z) 16
        · rw [if_pos hr] at fin
          have hr' := hr
          unfold lot ush9 at hr'
          simp only [hr', if_true]
          exact fin
        · rw [if_neg hr] at fin
          have hr' := hr
          unfold lot ush9 at hr'
          simp only [hr', if_false]
          exact fin
      · rw [if_neg (fun h => p2 ((goB_iff G).mp h).2)] at hQ
        have hQ := hQ iv1 jv2 hF2 hC2 hB
        have hlt : (nI 0 ≤ nxV G) = False := by
          apply propext
          constructor
          · intro h
            have h2 := nxV_f p2
            have h3 : nxV G < nI 0 := by rw [h2]; trivial
            rw [Int32.lt_iff_toInt_lt] at h3
            rw [Int32.le_iff_toInt_le] at h
            omega
          · exact False.elim
        simp (disch := first | assumption | omega) only [XK_s, x_o_goOnFrom_0, x_o_goOnFrom_1, x_o_goOnFrom_2, x_o_goOnFrom_5, x_o_goOnFrom_6, x_o_goOnFrom_9, x_o_goOnFrom_11, x_o_goOnFrom_12, x_o_goOnFrom_14, x_o_goOnFrom_15, x_o_goOnFrom_19, x_o_goOnFrom_21, x_o_goOnFrom_24, x_o_goOnFrom_25, x_o_goOnFrom_28, x_o_goOnFrom_31, x_o_goOnFrom_32, x_o_goOnFrom_35, x_o_goOnFrom_37, x_o_goOnFrom_39, x_o_goOnFrom_42, x_o_goOnFrom_45, x_o_goOnFrom_47, x_o_goOnFrom_50, x_o_goOnFrom_52, x_o_goOnFrom_53, x_o_goOnFrom_55, x_o_goOnFrom_57, x_o_goOnFrom_59, x_o_goOnFrom_60, x_o_goOnFrom_62, x_o_goOnFrom_63, x_o_goOnFrom_64, x_o_goOnFrom_67, x_o_goOnFrom_69, x_o_goOnFrom_70, x_o_goOnFrom_73, x_o_goOnFrom_74, x_o_goOnFrom_75, x_o_goOnFrom_78, x_o_goOnFrom_79, x_o_goOnFrom_82, x_o_goOnFrom_83, x_o_goOnFrom_86, x_o_goOnFrom_89, x_o_goOnFrom_92, x_o_goOnFrom_93, x_o_goOnFrom_96, x_o_goOnFrom_98, x_o_goOnFrom_99, hlt, if_false, s0, true_and, c14, h36, q_sub, Nat.add_sub_cancel_left]
        exact hQ
    · rw [if_neg (fun h => p1 ((goB_iff G).mp h).1)] at hQ
      have hQ := hQ iv1 jv1 hF hC hB
      simp (disch := first | assumption | omega) only [x_o_goOnFrom_0, x_o_goOnFrom_1, x_o_goOnFrom_2, x_o_goOnFrom_5, x_o_goOnFrom_6, x_o_goOnFrom_9, x_o_goOnFrom_11, x_o_goOnFrom_12, x_o_goOnFrom_14, x_o_goOnFrom_15, x_o_goOnFrom_19, x_o_goOnFrom_21, x_o_goOnFrom_24, x_o_goOnFrom_25, x_o_goOnFrom_28, x_o_goOnFrom_31, x_o_goOnFrom_32, x_o_goOnFrom_35, x_o_goOnFrom_37, x_o_goOnFrom_39, x_o_goOnFrom_42, x_o_goOnFrom_45, x_o_goOnFrom_47, x_o_goOnFrom_50, x_o_goOnFrom_52, x_o_goOnFrom_53, x_o_goOnFrom_55, x_o_goOnFrom_57, x_o_goOnFrom_59, x_o_goOnFrom_60, x_o_goOnFrom_62, x_o_goOnFrom_63, x_o_goOnFrom_64, x_o_goOnFrom_67, x_o_goOnFrom_69, x_o_goOnFrom_70, x_o_goOnFrom_73, x_o_goOnFrom_74, x_o_goOnFrom_75, x_o_goOnFrom_78, x_o_goOnFrom_79, x_o_goOnFrom_82, x_o_goOnFrom_83, x_o_goOnFrom_86, x_o_goOnFrom_89, x_o_goOnFrom_92, x_o_goOnFrom_93, x_o_goOnFrom_96, x_o_goOnFrom_98, x_o_goOnFrom_99, q_le, h4, if_false, s0, true_and, hov, XK_s, p1, c14, h36, q_sub, Nat.add_sub_cancel_left]
      exact hQ
theorem sp_o_goOnFrom {l : Nat} {z : Int32} (hb : isB B) (hv : isB v) (hvb : v ≠ B) (hl : l < 9) (hC : CR v G iv jv) (hB : IB G) (hD : DS G) (hn : nz (wt G 0)) (hon : G 34 = 1) (hgv : ∀ i, i < 8 → G (42 + 6 * i) + 9 ≤ 1000) (hQ : ∀ iv' jv', FB B iv jv iv' jv' → CR B (drN G l z).2 iv' jv' → IB (drN G l z).2 → Q (some (.int (nI (drN G l z).1))) (mk iv' jv')) : XM (d + 6) Yo_goOnFrom [.ref B, .ref v, .int z, .int (nI l)] iv jv Q := by
  obtain ⟨s0, s1, s2, s3, s4, s5, s6, s7, s8, s9, s10, s11⟩ := sB hb
  have b36 := hB.2.1
  have e : drN G l z = drF l 8 G z 0 := drF_more l 8 G z 0 hB hD (by omega) (fun i hi => by have := hgv i hi; omega)
  rw [e] at hQ
  simp (disch := first | assumption | omega) only [e_o_goOnFrom, x_o_goOnFrom_0, x_o_goOnFrom_1, x_o_goOnFrom_2, x_o_goOnFrom_5, x_o_goOnFrom_6, x_o_goOnFrom_9, x_o_goOnFrom_11, x_o_goOnFrom_12, x_o_goOnFrom_14, x_o_goOnFrom_15, x_o_goOnFrom_19, x_o_goOnFrom_21, x_o_goOnFrom_24, x_o_goOnFrom_25, x_o_goOnFrom_28, x_o_goOnFrom_31, x_o_goOnFrom_32, x_o_goOnFrom_35, x_o_goOnFrom_37, x_o_goOnFrom_39, x_o_goOnFrom_42, x_o_goOnFrom_45, x_o_goOnFrom_47, x_o_goOnFrom_50, x_o_goOnFrom_52, x_o_goOnFrom_53, x_o_goOnFrom_55, x_o_goOnFrom_57, x_o_goOnFrom_59, x_o_goOnFrom_60, x_o_goOnFrom_62, x_o_goOnFrom_63, x_o_goOnFrom_64, x_o_goOnFrom_67, x_o_goOnFrom_69, x_o_goOnFrom_70, x_o_goOnFrom_73, x_o_goOnFrom_74, x_o_goOnFrom_75, x_o_goOnFrom_78, x_o_goOnFrom_79, x_o_goOnFrom_82, x_o_goOnFrom_83, x_o_goOnFrom_86, x_o_goOnFrom_89, x_o_goOnFrom_92, x_o_goOnFrom_93, x_o_goOnFrom_96, x_o_goOnFrom_98, x_o_goOnFrom_99, s0, true_and]
  refine sp_o_copyFrom hb hv hvb hC hB (fun iv1 jv1 hF1 hC1 => ?_)
  have c14 := hC1.1.2.2.2.2.2.2
  simp (disch := first | assumption | omega) only [XK_n, x_o_goOnFrom_0, x_o_goOnFrom_1, x_o_goOnFrom_2, x_o_goOnFrom_5, x_o_goOnFrom_6, x_o_goOnFrom_9, x_o_goOnFrom_11, x_o_goOnFrom_12, x_o_goOnFrom_14, x_o_goOnFrom_15, x_o_goOnFrom_19, x_o_goOnFrom_21, x_o_goOnFrom_24, x_o_goOnFrom_25, x_o_goOnFrom_28, x_o_goOnFrom_31, x_o_goOnFrom_32, x_o_goOnFrom_35, x_o_goOnFrom_37, x_o_goOnFrom_39, x_o_goOnFrom_42, x_o_goOnFrom_45, x_o_goOnFrom_47, x_o_goOnFrom_50, x_o_goOnFrom_52, x_o_goOnFrom_53, x_o_goOnFrom_55, x_o_goOnFrom_57, x_o_goOnFrom_59, x_o_goOnFrom_60, x_o_goOnFrom_62, x_o_goOnFrom_63, x_o_goOnFrom_64, x_o_goOnFrom_67, x_o_goOnFrom_69, x_o_goOnFrom_70, x_o_goOnFrom_73, x_o_goOnFrom_74, x_o_goOnFrom_75, x_o_goOnFrom_78, x_o_goOnFrom_79, x_o_goOnFrom_82, x_o_goOnFrom_83, x_o_goOnFrom_86, x_o_goOnFrom_89, x_o_goOnFrom_92, x_o_goOnFrom_93, x_o_goOnFrom_96, x_o_goOnFrom_98, x_o_goOnFrom_99, s0, true_and, c14]
  exact lp_o_goOn (d := d) hb hl b36 8 G z 0 iv1 jv1 _ hC1 hB hD hn hon (Nat.le_refl _) (by omega) (fun i hi => by have := hgv i hi; omega) hF1 hQ
end GOON
