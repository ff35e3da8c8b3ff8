section BITEM
variable {d : Nat} {iv : mI} {jv : mJ} {Q : Option Value → mH → Prop} {G : Nat → Nat} {B : Nat}
theorem gsi_fl {G : Nat → Nat} {s : Nat} : ∀ n, (gsi G s n).2 = false → ∀ i, i < n → s.testBit i = true → (Tn G i).2 = false
  | 0, _, i, hi, _ => by omega
  | n + 1, h, i, hi, hb => by
    rw [gsi_s] at h
    by_cases e : i = n
    · subst e
      rw [if_pos hb] at h
      simp only [Bool.or_eq_false_iff] at h
      exact h.1.2
    · refine gsi_fl n ?_ i (by omega) hb
      split at h
      · simp only [Bool.or_eq_false_iff] at h
        exact h.1.1
      · exact h
theorem sc_fl (G : Nat → Nat) : ∀ k, (sc G k).2.1 ≠ 0 → (jf G (sc G k).1).2 = false
  | 0, h => absurd rfl h
  | k + 1, h => by
    have ih := sc_fl G k
    rw [sc_s] at h ⊢
    split at h
    · rw [if_pos ‹_›]; exact ih h
    · rw [if_neg ‹_›]
      split at h
      · rw [if_pos ‹_›]
        split at h
        · rw [if_pos ‹_›]; exact ih h
        · rename_i h2
          rw [if_neg h2]
          split at h
          · rw [if_pos ‹_›]; exact Bool.eq_false_iff.mpr h2
          · rw [if_neg ‹_›]; exact ih h
      · rw [if_neg ‹_›]; exact ih h
theorem nxs_iv (G : Nat → Nat) (s : Nat) : ∀ n, ((nxs G s n).1 = 0 ∧ (nxs G s n).2.1 = 0) ∨ (1 ≤ (nxs G s n).1 ∧ (nxs G s n).2.1 = (Tn G ((nxs G s n).1 - 1)).1 + 1)
  | 0 => Or.inl ⟨rfl, rfl⟩
  | n + 1 => by
    have ih := nxs_iv G s n
    rw [nxs_s]
    split
    · split
      · exact Or.inr ⟨by dsimp only; omega, by dsimp only; rfl⟩
      · exact ih
    · exact ih
theorem lp_o_bestItem {s : Nat} (hs : s < 256) (hb : isB B) (hC : CR B G iv jv) (hB : IB G) (hI : ∀ i, i < G 29 → jv (B + 11) i = lo (Tn G i)) (hF : ∀ i, i < G 29 → (dif s (askB G (G 36))).testBit i = true → (Tn G i).2 = false) : ∀ n i, i + n = G 29 → XT (d + 2) Yo_bestItem 15 [.ref B, .int (nI s), .int (bo (nxs G (dif s (askB G (G 36))) i).1), .int (nI i)] [] iv jv Q = Q (some (.int (bo (nxs G (dif s (askB G (G 36))) (G 29)).1))) (mk iv jv) := by
  obtain ⟨⟨c4, c5, c6, c7, c9, c11, c14⟩, cp, ca, cb, cw, ck, cm, ci, ch⟩ := id hC
  obtain ⟨s0, s1, s2, s3, s4, s5, s6, s7, s8, s9, s10, s11⟩ := sB hb
  have b1 := hB.1
  have e18 : ((18 : Nat) = 18 ∨ (18 : Nat) = 19) = True := by simp
  intro n
  induction n with
  | zero =>
    intro i hi
    obtain rfl : i = G 29 := by omega
    rw [x_o_bestItem_15]
    simp (disch := first | assumption | omega) only [x_o_bestItem_0, x_o_bestItem_1, x_o_bestItem_4, x_o_bestItem_5, x_o_bestItem_6, x_o_bestItem_9, x_o_bestItem_10, x_o_bestItem_11, x_o_bestItem_12, x_o_bestItem_13, x_o_bestItem_14, x_o_bestItem_16, x_o_bestItem_17, x_o_bestItem_20, x_o_bestItem_23, x_o_bestItem_24, x_o_bestItem_25, x_o_bestItem_26, x_o_bestItem_27, x_o_bestItem_28, x_o_bestItem_31, x_o_bestItem_32, x_o_bestItem_35, x_o_bestItem_36, x_o_bestItem_37, x_o_bestItem_40, x_o_bestItem_41, x_o_bestItem_44, x_o_bestItem_47, x_o_bestItem_48, x_o_bestItem_49, x_o_bestItem_52, x_o_bestItem_53, x_o_bestItem_56, x_o_bestItem_57, x_o_bestItem_58, x_o_bestItem_59, x_o_bestItem_62, x_o_bestItem_63, x_o_bestItem_64, x_o_bestItem_65, x_o_bestItem_68, x_o_bestItem_69, x_o_bestItem_70, x_o_bestItem_73, x_o_bestItem_76, x_o_bestItem_77, s0, true_and, c9, q_le, Nat.le_refl, if_true]
  | succ n ih =>
    intro i hi
    have h4 : ¬ G 29 ≤ i := by omega
    have hi8 : i < 8 := by omega
    obtain ⟨t0, t1, t2⟩ := sI hb hi8
    obtain ⟨⟨f0, f1, f2, f3, f4, f5, f6, f7⟩, fr, ft⟩ := ci i (by omega)
    have h8 := ih (i + 1) (by omega)
    have hbit := bit_hasI s hs i hi8
    have hrep := rep_m hB i
    have hiv := nxs_iv G (dif s (askB G (G 36))) i
    have hle := nxs_le G (dif s (askB G (G 36))) i
    rw [nxs_s] at h8
    rw [x_o_bestItem_15]
    by_cases p1 : s.testBit i = true
    · by_cases p2 : (askB G (G 36)).testBit i = true
      · have p2' : ¬ aoR G i (G 36) 0 = -1 := fun h => hrep.mp h p2
        have pd : ¬ (dif s (askB G (G 36))).testBit i = true := by rw [dif_bit, p2]; simp
        rw [if_neg pd] at h8
        simp (disch := first | assumption | omega) only [x_o_bestItem_0, x_o_bestItem_1, x_o_bestItem_4, x_o_bestItem_5, x_o_bestItem_6, x_o_bestItem_9, x_o_bestItem_10, x_o_bestItem_11, x_o_bestItem_12, x_o_bestItem_13, x_o_bestItem_14, x_o_bestItem_16, x_o_bestItem_17, x_o_bestItem_20, x_o_bestItem_23, x_o_bestItem_24, x_o_bestItem_25, x_o_bestItem_26, x_o_bestItem_27, x_o_bestItem_28, x_o_bestItem_31, x_o_bestItem_32, x_o_bestItem_35, x_o_bestItem_36, x_o_bestItem_37, x_o_bestItem_40, x_o_bestItem_41, x_o_bestItem_44, x_o_bestItem_47, x_o_bestItem_48, x_o_bestItem_49, x_o_bestItem_52, x_o_bestItem_53, x_o_bestItem_56, x_o_bestItem_57, x_o_bestItem_58, x_o_bestItem_59, x_o_bestItem_62, x_o_bestItem_63, x_o_bestItem_64, x_o_bestItem_65, x_o_bestItem_68, x_o_bestItem_69, x_o_bestItem_70, x_o_bestItem_73, x_o_bestItem_76, x_o_bestItem_77, s0, s5, e18, true_and, true_or, c9, q_le, h4, if_false, if_true, hbit, b01_eq0, eq_true p1, not_true_eq_false, q_in, q_tn, rI hb, t0, f7, eq_false p2', q_add]
        exact h8
      · have p2' : aoR G i (G 36) 0 = -1 := hrep.mpr p2
        have pd : (dif s (askB G (G 36))).testBit i = true := by rw [dif_bit, p1]; simp [p2]
        have ef := hF i (by omega) pd
        have j1 := hI i (by omega)
        rw [lo_f ef] at j1
        have t1l := Tn_lt G i
        rw [if_pos pd] at h8
        by_cases p3 : (nxs G (dif s (askB G (G 36))) i).1 = 0
        · have p4 : (nxs G (dif s (askB G (G 36))) i).2.1 ≤ (Tn G i).1 := by omega
          rw [if_pos p4] at h8
          simp only [bo_s] at h8
          have eb : bo (nxs G (dif s (askB G (G 36))) i).1 = -1 := by rw [p3]; rfl
          simp (disch := first | assumption | omega) only [x_o_bestItem_0, x_o_bestItem_1, x_o_bestItem_4, x_o_bestItem_5, x_o_bestItem_6, x_o_bestItem_9, x_o_bestItem_10, x_o_bestItem_11, x_o_bestItem_12, x_o_bestItem_13, x_o_bestItem_14, x_o_bestItem_16, x_o_bestItem_17, x_o_bestItem_20, x_o_bestItem_23, x_o_bestItem_24, x_o_bestItem_25, x_o_bestItem_26, x_o_bestItem_27, x_o_bestItem_28, x_o_bestItem_31, x_o_bestItem_32, x_o_bestItem_35, x_o_bestItem_36, x_o_bestItem_37, x_o_bestItem_40, x_o_bestItem_41, x_o_bestItem_44, x_o_bestItem_47, x_o_bestItem_48, x_o_bestItem_49, x_o_bestItem_52, x_o_bestItem_53, x_o_bestItem_56, x_o_bestItem_57, x_o_bestItem_58, x_o_bestItem_59, x_o_bestItem_62, x_o_bestItem_63, x_o_bestItem_64, x_o_bestItem_65, x_o_bestItem_68, x_o_bestItem_69, x_o_bestItem_70, x_o_bestItem_73, x_o_bestItem_76, x_o_bestItem_77, s0, s5, e18, true_and, true_or, c9, q_le, h4, if_false, if_true, hbit, b01_eq0, eq_true p1, not_true_eq_false, q_in, q_tn, rI hb, t0, f7, eq_true p2', eb, q_add]
          exact h8
        · obtain ⟨b, hbb⟩ : ∃ b, (nxs G (dif s (askB G (G 36))) i).1 = b + 1 := ⟨(nxs G (dif s (askB G (G 36))) i).1 - 1, by omega⟩
          have hm : (nxs G (dif s (askB G (G 36))) i).2.1 = (Tn G b).1 + 1 := by
            rcases hiv with h | h
            · omega
            · rw [hbb] at h; exact h.2
          have hbi : b < i := by omega
          have hbd := nxs_bit G (dif s (askB G (G 36))) i p3
          rw [hbb, Nat.add_sub_cancel] at hbd
          have eg := hF b (by omega) hbd.1
          have j2 := hI b (by omega)
          rw [lo_f eg] at j2
          have t2l := Tn_lt G b
          have eb : bo (nxs G (dif s (askB G (G 36))) i).1 = nI b := by rw [hbb]; rfl
          rw [hm] at h8
          by_cases p4 : (Tn G b).1 < (Tn G i).1
          · rw [if_pos (show (Tn G b).1 + 1 ≤ (Tn G i).1 from p4)] at h8
            simp only [bo_s] at h8
            have p4' : ¬ (Tn G i).1 ≤ (Tn G b).1 := by omega
            simp (disch := first | assumption | omega) only [x_o_bestItem_0, x_o_bestItem_1, x_o_bestItem_4, x_o_bestItem_5, x_o_bestItem_6, x_o_bestItem_9, x_o_bestItem_10, x_o_bestItem_11, x_o_bestItem_12, x_o_bestItem_13, x_o_bestItem_14, x_o_bestItem_16, x_o_bestItem_17, x_o_bestItem_20, x_o_bestItem_23, x_o_bestItem_24, x_o_bestItem_25, x_o_bestItem_26, x_o_bestItem_27, x_o_bestItem_28, x_o_bestItem_31, x_o_bestItem_32, x_o_bestItem_35, x_o_bestItem_36, x_o_bestItem_37, x_o_bestItem_40, x_o_bestItem_41, x_o_bestItem_44, x_o_bestItem_47, x_o_bestItem_48, x_o_bestItem_49, x_o_bestItem_52, x_o_bestItem_53, x_o_bestItem_56, x_o_bestItem_57, x_o_bestItem_58, x_o_bestItem_59, x_o_bestItem_62, x_o_bestItem_63, x_o_bestItem_64, x_o_bestItem_65, x_o_bestItem_68, x_o_bestItem_69, x_o_bestItem_70, x_o_bestItem_73, x_o_bestItem_76, x_o_bestItem_77, s0, s5, s11, e18, true_and, true_or, c9, q_le, h4, if_false, if_true, hbit, b01_eq0, eq_true p1, not_true_eq_false, q_in, q_tn, rI hb, t0, f7, eq_true p2', eb, nm0', j1, j2, c_le, q_lle, p4', q_add]
            exact h8
          · rw [if_neg (show ¬ (Tn G b).1 + 1 ≤ (Tn G i).1 from p4)] at h8
            have p4' : (Tn G i).1 ≤ (Tn G b).1 := by omega
            rw [eb] at h8
            simp (disch := first | assumption | omega) only [x_o_bestItem_0, x_o_bestItem_1, x_o_bestItem_4, x_o_bestItem_5, x_o_bestItem_6, x_o_bestItem_9, x_o_bestItem_10, x_o_bestItem_11, x_o_bestItem_12, x_o_bestItem_13, x_o_bestItem_14, x_o_bestItem_16, x_o_bestItem_17, x_o_bestItem_20, x_o_bestItem_23, x_o_bestItem_24, x_o_bestItem_25, x_o_bestItem_26, x_o_bestItem_27, x_o_bestItem_28, x_o_bestItem_31, x_o_bestItem_32, x_o_bestItem_35, x_o_bestItem_36, x_o_bestItem_37, x_o_bestItem_40, x_o_bestItem_41, x_o_bestItem_44, x_o_bestItem_47, x_o_bestItem_48, x_o_bestItem_49, x_o_bestItem_52, x_o_bestItem_53, x_o_bestItem_56, x_o_bestItem_57, x_o_bestItem_58, x_o_bestItem_59, x_o_bestItem_62, x_o_bestItem_63, x_o_bestItem_64, x_o_bestItem_65, x_o_bestItem_68, x_o_bestItem_69, x_o_bestItem_70, x_o_bestItem_73, x_o_bestItem_76, x_o_bestItem_77, s0, s5, s11, e18, true_and, true_or, c9, q_le, h4, if_false, if_true, hbit, b01_eq0, eq_true p1, not_true_eq_false, q_in, q_tn, rI hb, t0, f7, eq_true p2', eb, nm0', j1, j2, c_le, q_lle, p4', q_add]
            exact h8
    · have pd : ¬ (dif s (askB G (G 36))).testBit i = true := by rw [dif_bit]; simp [p1]
      rw [if_neg pd] at h8
      simp (disch := first | assumption | omega) only [x_o_bestItem_0, x_o_bestItem_1, x_o_bestItem_4, x_o_bestItem_5, x_o_bestItem_6, x_o_bestItem_9, x_o_bestItem_10, x_o_bestItem_11, x_o_bestItem_12, x_o_bestItem_13, x_o_bestItem_14, x_o_bestItem_16, x_o_bestItem_17, x_o_bestItem_20, x_o_bestItem_23, x_o_bestItem_24, x_o_bestItem_25, x_o_bestItem_26, x_o_bestItem_27, x_o_bestItem_28, x_o_bestItem_31, x_o_bestItem_32, x_o_bestItem_35, x_o_bestItem_36, x_o_bestItem_37, x_o_bestItem_40, x_o_bestItem_41, x_o_bestItem_44, x_o_bestItem_47, x_o_bestItem_48, x_o_bestItem_49, x_o_bestItem_52, x_o_bestItem_53, x_o_bestItem_56, x_o_bestItem_57, x_o_bestItem_58, x_o_bestItem_59, x_o_bestItem_62, x_o_bestItem_63, x_o_bestItem_64, x_o_bestItem_65, x_o_bestItem_68, x_o_bestItem_69, x_o_bestItem_70, x_o_bestItem_73, x_o_bestItem_76, x_o_bestItem_77, s0, true_and, c9, q_le, h4, if_false, if_true, hbit, b01_eq0, eq_false p1, not_false_eq_true, q_add]
      exact h8
theorem sp_o_bestItem (hb : isB B) (hC : CR B G iv jv) (hB : IB G) (hD : DS G) (hQ : ∀ jv', (∀ q k, q ≠ B + 11 → jv' q k = jv q k) → Q (some (.int (nxV G))) (mk iv jv')) : XM (d + 4) Yo_bestItem [.ref B] iv jv Q := by
  obtain ⟨s0, s1, s2, s3, s4, s5, s6, s7, s8, s9, s10, s11⟩ := sB hb
  have hs := sc_lt2 G (2 ^ G 29)
  have h2 := pow_le hB.1
  simp (disch := first | assumption | omega) only [e_o_bestItem, x_o_bestItem_0, x_o_bestItem_1, x_o_bestItem_4, x_o_bestItem_5, x_o_bestItem_6, x_o_bestItem_9, x_o_bestItem_10, x_o_bestItem_11, x_o_bestItem_12, x_o_bestItem_13, x_o_bestItem_14, x_o_bestItem_16, x_o_bestItem_17, x_o_bestItem_20, x_o_bestItem_23, x_o_bestItem_24, x_o_bestItem_25, x_o_bestItem_26, x_o_bestItem_27, x_o_bestItem_28, x_o_bestItem_31, x_o_bestItem_32, x_o_bestItem_35, x_o_bestItem_36, x_o_bestItem_37, x_o_bestItem_40, x_o_bestItem_41, x_o_bestItem_44, x_o_bestItem_47, x_o_bestItem_48, x_o_bestItem_49, x_o_bestItem_52, x_o_bestItem_53, x_o_bestItem_56, x_o_bestItem_57, x_o_bestItem_58, x_o_bestItem_59, x_o_bestItem_62, x_o_bestItem_63, x_o_bestItem_64, x_o_bestItem_65, x_o_bestItem_68, x_o_bestItem_69, x_o_bestItem_70, x_o_bestItem_73, x_o_bestItem_76, x_o_bestItem_77, s0, true_and]
  refine sp_o_bestTest hb hC hB hD (fun jv' h1 hI => ?_)
  have hC1 := CR_11 hC h1
  have hQ := hQ jv' h1
  simp (disch := first | assumption | omega) only [XK_s, x_o_bestItem_0, x_o_bestItem_1, x_o_bestItem_4, x_o_bestItem_5, x_o_bestItem_6, x_o_bestItem_9, x_o_bestItem_10, x_o_bestItem_11, x_o_bestItem_12, x_o_bestItem_13, x_o_bestItem_14, x_o_bestItem_16, x_o_bestItem_17, x_o_bestItem_20, x_o_bestItem_23, x_o_bestItem_24, x_o_bestItem_25, x_o_bestItem_26, x_o_bestItem_27, x_o_bestItem_28, x_o_bestItem_31, x_o_bestItem_32, x_o_bestItem_35, x_o_bestItem_36, x_o_bestItem_37, x_o_bestItem_40, x_o_bestItem_41, x_o_bestItem_44, x_o_bestItem_47, x_o_bestItem_48, x_o_bestItem_49, x_o_bestItem_52, x_o_bestItem_53, x_o_bestItem_56, x_o_bestItem_57, x_o_bestItem_58, x_o_bestItem_59, x_o_bestItem_62, x_o_bestItem_63, x_o_bestItem_64, x_o_bestItem_65, x_o_bestItem_68, x_o_bestItem_69, x_o_bestItem_70, x_o_bestItem_73, x_o_bestItem_76, x_o_bestItem_77]
  unfold shV
  unfold nxV at hQ
  by_cases h : (scN G).2.2 = true
  · rw [if_pos h] at hQ ⊢
    simp only [n7', if_false]
    exact hQ
  · rw [if_neg h] at hQ ⊢
    by_cases h3 : (scN G).2.1 = 0
    · rw [if_pos h3] at hQ ⊢
      simp only [n8', if_false]
      exact hQ
    · rw [if_neg h3] at hQ ⊢
      have h5 : (scN G).1 < 2 ^ G 29 := hs h3
      have h6 : (scN G).1 < 256 := by omega
      have hfl := sc_fl G (2 ^ G 29) h3
      have hl := lp_o_bestItem (d := d + 1) (Q := Q) (s := (scN G).1) h6 hb hC1 hB hI (fun i hi hbt => gsi_fl (G 29) hfl i hi hbt) (G 29) 0 (by omega)
      simp (disch := first | assumption | omega) only [q_le, Nat.zero_le, if_true]
      exact hl.mpr hQ
end BITEM
