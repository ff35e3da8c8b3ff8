section PAIR1
variable {d t : Nat} {iv : mI} {jv : mJ} {G : Nat → Nat}
theorem nat8 {x : Int32} {m : Nat} (h : ((0 : Nat) : Int) ≤ x.toInt ∧ x.toInt ≤ (m : Int)) (hm : m < 2147483648) : ∃ k, k ≤ m ∧ x = nI k := inR_of (x := x) (m := m) ⟨by omega, h.2⟩ hm
theorem sp_tLN {k : Nat} {Q : Option Value → mH → Prop} (hk : k < 2147483648) : XM (d + 2) Yt_isLevel [.int (nI k)] iv jv Q = Q (some (.int (b01 (k ≤ 8)))) (mk iv jv) := by
  rw [sp_t_isLevel, b01_congr (e := k ≤ 8)]
  rw [nI_toI hk]; omega
theorem sp_tAN {k : Nat} {Q : Option Value → mH → Prop} (hk : k < 2147483648) : XM (d + 2) Yt_isArea [.int (nI k)] iv jv Q = Q (some (.int (b01 (k ≤ 2)))) (mk iv jv) := by
  rw [sp_t_isArea, b01_congr (e := k ≤ 2)]
  rw [nI_toI hk]; omega
theorem sp_tKN {k : Nat} {Q : Option Value → mH → Prop} (hk : k < 2147483648) : XM (d + 2) Yt_isKind [.int (nI k)] iv jv Q = Q (some (.int (b01 (k ≤ 5)))) (mk iv jv) := by
  rw [sp_t_isKind, b01_congr (e := k ≤ 5)]
  rw [nI_toI hk]; omega
theorem sp_tSN {k : Nat} {Q : Option Value → mH → Prop} (hk : k < 2147483648) : XM (d + 2) Yt_isSheet [.int (nI k)] iv jv Q = Q (some (.int (b01 (k ≤ 3)))) (mk iv jv) := by
  rw [sp_t_isSheet, b01_congr (e := k ≤ 3)]
  rw [nI_toI hk]; omega
theorem sp_oIN {B k : Nat} {Q : Option Value → mH → Prop} (hk : k < 2147483648) (hb : isB B) (hC : CF B G iv) (hB : IB G) : XM (d + 2) Yo_isItem [.ref B, .int (nI k)] iv jv Q = Q (some (.int (b01 (k < G 29)))) (mk iv jv) := by
  rw [sp_o_isItem _ hb hC hB, b01_congr (e := k < G 29)]
  rw [nI_toI hk]; omega
theorem natIt {x : Int32} (hB : IB G) (h : isIt G x) : ∃ i, i < G 29 ∧ i < 8 ∧ x = nI i := by
  have b1 := hB.1
  obtain ⟨k, hk, rfl⟩ := inR_of (x := x) (m := 7) ⟨h.1, by have := h.2; omega⟩ (by decide)
  refine ⟨k, ?_, by omega, rfl⟩
  have := h.2
  rw [nI_toI (by omega)] at this
  omega
theorem nz_up {l v : Nat} (hl : l < 9) (hn : nz G) (hv : ¬ (v = 0 ∧ oth G l 9 = 0)) : nz (up G l v) := by
  by_cases h0 : v = 0
  · have h1 : ¬ oth G l 9 = 0 := fun h => hv ⟨h0, h⟩
    have : ∀ n, n ≤ 9 → ¬ oth G l n = 0 → ∃ k, k < n ∧ k ≠ l ∧ G k ≠ 0 := by
      intro n
      induction n with
      | zero => intro _ h; exact absurd rfl h
      | succ n ih =>
        intro hn h
        rw [oth_s] at h
        by_cases e : oth G l n = 0
        · by_cases e2 : n = l
          · rw [if_pos e2] at h; omega
          · rw [if_neg e2] at h; exact ⟨n, by omega, e2, by omega⟩
        · obtain ⟨k, a, b, c⟩ := ih (by omega) e
          exact ⟨k, by omega, b, c⟩
    obtain ⟨k, a, b, c⟩ := this 9 (Nat.le_refl _) h1
    exact ⟨k, a, by rw [up_ne b]; exact c⟩
  · exact ⟨l, hl, by rw [up_at]; exact h0⟩
theorem IB_up {k v : Nat} (hB : IB G) (h : (k < 18 → v ≤ 2000000000) ∧ (18 ≤ k → k < 24 → v ≤ 8) ∧ (24 ≤ k → k < 29 → v ≤ 99) ∧ (k = 30 → 1 ≤ v ∧ v ≤ 8) ∧ (k = 31 → v ≤ 9) ∧ (k = 32 → v ≤ 31)) (hk : k < 29 ∨ k = 30 ∨ k = 31 ∨ k = 32) : IB (up G k v) := by
  obtain ⟨b1, b2, b3, b4, b5, b6, b7, b8, b9, b10, b11, b12, b13⟩ := hB
  have e : ∀ j, j ≠ k → up G k v j = G j := fun j h => up_ne h
  have f : ∀ j, up G k v j = G j ∨ (j = k ∧ up G k v j = v) := fun j => by
    by_cases h : j = k
    · exact Or.inr ⟨h, by rw [h, up_at]⟩
    · exact Or.inl (up_ne h)
  refine ⟨?_, ?_, ?_, ?_, ?_, ?_, ?_, ?_, ?_, ?_, ?_, ?_, ?_⟩
  · rw [e _ (by omega)]; exact b1
  · rw [e _ (by omega)]; exact b2
  · rw [e _ (by omega)]; exact b3
  · intro i hi
    rw [e _ (by omega), e _ (by omega), e _ (by omega), e _ (by omega), e _ (by omega), e _ (by omega)]
    exact b4 i hi
  · intro i hi
    rw [e _ (by omega), e _ (by omega)]
    exact b5 i hi
  · intro l hl
    have := b6 l hl
    rcases f l with h' | h' <;> omega
  · intro a ha
    have := b7 a ha
    rcases f (18 + a) with h' | h' <;> rcases f (21 + a) with h'' | h'' <;> omega
  · intro r hr
    have := b8 r hr
    rcases f (24 + r) with h' | h' <;> omega
  · rcases f 30 with h' | h' <;> omega
  · rcases f 31 with h' | h' <;> omega
  · rcases f 32 with h' | h' <;> omega
  · rw [e _ (by omega)]; exact b12
  · rw [e _ (by omega)]; exact b13
theorem ST_up {k v : Nat} (hT : ST t G) (hB : IB (up G k v)) (hk : 18 ≤ k) (hk2 : k < 29 ∨ k = 30 ∨ k = 31 ∨ k = 32) : ST t (up G k v) := by
  obtain ⟨a, b, c, e, f, g, h⟩ := hT
  have u : ∀ j, j ≠ k → up G k v j = G j := fun j h => up_ne h
  refine ⟨hB, fun j hj => ?_, ?_, ?_, ?_, fun i hi => ?_, ?_⟩
  · rw [u 36 (by omega)] at hj
    rw [u _ (by omega), u 29 (by omega)]
    refine ⟨(b j hj).1, fun j' hj' => ?_⟩
    rw [u _ (by omega)]; exact (b j hj).2 j' hj'
  · obtain ⟨l, hl, h0⟩ := c
    exact ⟨l, hl, by rw [u _ (by omega)]; exact h0⟩
  · obtain ⟨l, hl, h0⟩ := e
    refine ⟨l, hl, ?_⟩
    rw [wt_0, u _ (by omega), u _ (by omega), u _ (by omega)]; exact h0
  · rw [u 34 (by omega), u 35 (by omega), u 36 (by omega)]; exact f
  · rw [u _ (by omega)]; exact g i hi
  · rw [u _ (by omega)]; exact h
theorem pr_prior (hI : INV t iv jv) (x y : Int32) : XM (d + 12) Yt_prior [.ref 0, .int x, .int y] iv jv (Q1 (d + 12) t Ym_prior [.ref 118, .int x, .int y]) := by
  obtain ⟨G, hT, hC, hG, hM, hS⟩ := hI
  have hB := hT.1
  by_cases h : isPv x y
  · obtain ⟨l, hl, rfl⟩ := nat8 (m := 8) (x := x) h.1 (by decide)
    obtain ⟨v, hv, rfl⟩ := nat8 (m := 2000000000) (x := y) ⟨h.2.1, h.2.2⟩ (by decide)
    have p1 : ((0 : Nat) : Int) ≤ (nI l).toInt ∧ (nI l).toInt ≤ ((8 : Nat) : Int) := h.1
    have p2 : ((0 : Nat) : Int) ≤ (nI v).toInt ∧ (nI v).toInt ≤ ((2000000000 : Nat) : Int) := h.2
    have hoth := fun (Q : Option Value → mH → Prop) => sp_o_others (d := d + 10) (jv := jv) (Q := Q) isB1 (show l < 9 from by omega) hB hC.2.1
    by_cases h0 : v = 0 ∧ oth G l 9 = 0
    · have hm := fun (Q : Option Value → mH → Prop) => sp_m_prior (d := d + 9) (iv := iv) (Q := Q) (show l < 9 from by omega) hv hG hB
      simp (disch := first | assumption | omega) only [e_t_prior, x_t_prior_0, x_t_prior_1, x_t_prior_4, x_t_prior_7, x_t_prior_8, x_t_prior_9, x_t_prior_11, x_t_prior_14, x_t_prior_17, x_t_prior_19, x_t_prior_20, x_t_prior_21, x_t_prior_24, x_t_prior_25, x_t_prior_28, x_t_prior_29, x_t_prior_32, x_t_prior_35, x_t_prior_37, x_t_prior_38, x_t_prior_39, x_t_prior_42, x_t_prior_43, x_t_prior_44, x_t_prior_47, sp_t_isLevel, sp_within, XK_s, b01_eq0, eq_true p1, eq_true p2, not_true_eq_false, if_false, if_true, qn0, eq_true h0.1, hoth, eq_true h0.2]
      refine Q1_i ?_
      rw [hm, if_pos h0]
      exact Q2_i (INV_r hT hC hG hM hS)
    · have go : XM (d + 11) Yo_changePrior [.ref 1, .int (nI l), .int (nI v)] iv jv (XK (d + 11) Yt_prior 47 [.ref 0, .int (nI l), .int (nI v)] [] (Q1 (d + 12) t Ym_prior [.ref 118, .int (nI l), .int (nI v)])) := by
        refine sp_o_changePrior (d := d + 7) isB1 hC hB (by omega) hv (fun h => (hT.2.2.2.2.1 h).1) (fun iv1 jv1 hF hC1 => ?_)
        simp (disch := first | assumption | omega) only [XK_s, x_t_prior_0, x_t_prior_1, x_t_prior_4, x_t_prior_7, x_t_prior_8, x_t_prior_9, x_t_prior_11, x_t_prior_14, x_t_prior_17, x_t_prior_19, x_t_prior_20, x_t_prior_21, x_t_prior_24, x_t_prior_25, x_t_prior_28, x_t_prior_29, x_t_prior_32, x_t_prior_35, x_t_prior_37, x_t_prior_38, x_t_prior_39, x_t_prior_42, x_t_prior_43, x_t_prior_44, x_t_prior_47]
        refine Q1_i ?_
        have hG1 := FX_G (FX_1 hF) hG
        rw [sp_m_prior (d := d + 9) (by omega) hv hG1 hB, if_neg h0]
        refine Q2_i (INV_mk hM hS (FX_1 hF) hC1 (FW_9 (fun q k hq => upj_ne hq)) (RG_up hG1 l v) (ST_s ?_))
        obtain ⟨a, b, c, e, f, g, h⟩ := hT
        have u : ∀ j, j ≠ l → up G l v j = G j := fun j h => up_ne h
        refine ⟨IB_up hB ⟨fun _ => hv, by omega, by omega, by omega, by omega, by omega⟩ (by omega), fun j hj => ?_, nz_up (by omega) c h0, ?_, ?_, fun i hi => ?_, ?_⟩
        · rw [u 36 (by omega)] at hj
          rw [u _ (by omega), u 29 (by omega)]
          refine ⟨(b j hj).1, fun j' hj' => ?_⟩
          rw [u _ (by omega)]; exact (b j hj).2 j' hj'
        · by_cases hon : G 34 = 1
          · obtain ⟨l', hl', h0'⟩ := e
            refine ⟨l', hl', ?_⟩
            rw [wt_up (by omega) hon 0 l' hl']; exact h0'
          · obtain ⟨l', hl', h0'⟩ := nz_up (by omega) c h0
            refine ⟨l', hl', ?_⟩
            rw [wt_0, u 34 (by omega), if_neg hon]; exact h0'
        · rw [u 34 (by omega), u 35 (by omega), u 36 (by omega)]; exact f
        · rw [u _ (by omega)]; exact g i hi
        · rw [u _ (by omega)]; exact h
      by_cases e0 : v = 0
      · have e1 : ¬ oth G l 9 = 0 := fun e => h0 ⟨e0, e⟩
        simp (disch := first | assumption | omega) only [e_t_prior, x_t_prior_0, x_t_prior_1, x_t_prior_4, x_t_prior_7, x_t_prior_8, x_t_prior_9, x_t_prior_11, x_t_prior_14, x_t_prior_17, x_t_prior_19, x_t_prior_20, x_t_prior_21, x_t_prior_24, x_t_prior_25, x_t_prior_28, x_t_prior_29, x_t_prior_32, x_t_prior_35, x_t_prior_37, x_t_prior_38, x_t_prior_39, x_t_prior_42, x_t_prior_43, x_t_prior_44, x_t_prior_47, sp_t_isLevel, sp_within, XK_s, b01_eq0, eq_true p1, eq_true p2, not_true_eq_false, not_false_eq_true, if_false, if_true, qn0, eq_true e0, hoth, eq_false e1]
        exact go
      · simp (disch := first | assumption | omega) only [e_t_prior, x_t_prior_0, x_t_prior_1, x_t_prior_4, x_t_prior_7, x_t_prior_8, x_t_prior_9, x_t_prior_11, x_t_prior_14, x_t_prior_17, x_t_prior_19, x_t_prior_20, x_t_prior_21, x_t_prior_24, x_t_prior_25, x_t_prior_28, x_t_prior_29, x_t_prior_32, x_t_prior_35, x_t_prior_37, x_t_prior_38, x_t_prior_39, x_t_prior_42, x_t_prior_43, x_t_prior_44, x_t_prior_47, sp_t_isLevel, sp_within, XK_s, b01_eq0, eq_true p1, eq_true p2, not_true_eq_false, if_false, qn0, eq_false e0]
        exact go
  · have fin : Q1 (d + 12) t Ym_prior [.ref 118, .int x, .int y] (some (.int (-2))) (mk iv jv) := by
      refine Q1_i ?_
      rw [sp_m_prior_bad (d := d + 9) h]
      exact Q2_i (INV_r hT hC hG hM hS)
    unfold isPv at h
    by_cases p1 : ((0 : Nat) : Int) ≤ x.toInt ∧ x.toInt ≤ ((8 : Nat) : Int)
    · have p2 : ¬ (((0 : Nat) : Int) ≤ y.toInt ∧ y.toInt ≤ ((2000000000 : Nat) : Int)) := by omega
      simp (disch := first | assumption | omega) only [e_t_prior, x_t_prior_0, x_t_prior_1, x_t_prior_4, x_t_prior_7, x_t_prior_8, x_t_prior_9, x_t_prior_11, x_t_prior_14, x_t_prior_17, x_t_prior_19, x_t_prior_20, x_t_prior_21, x_t_prior_24, x_t_prior_25, x_t_prior_28, x_t_prior_29, x_t_prior_32, x_t_prior_35, x_t_prior_37, x_t_prior_38, x_t_prior_39, x_t_prior_42, x_t_prior_43, x_t_prior_44, x_t_prior_47, sp_t_isLevel, sp_within, XK_s, b01_eq0, eq_true p1, eq_false p2, not_true_eq_false, not_false_eq_true, if_false, if_true]
      exact fin
    · simp (disch := first | assumption | omega) only [e_t_prior, x_t_prior_0, x_t_prior_1, x_t_prior_4, x_t_prior_7, x_t_prior_8, x_t_prior_9, x_t_prior_11, x_t_prior_14, x_t_prior_17, x_t_prior_19, x_t_prior_20, x_t_prior_21, x_t_prior_24, x_t_prior_25, x_t_prior_28, x_t_prior_29, x_t_prior_32, x_t_prior_35, x_t_prior_37, x_t_prior_38, x_t_prior_39, x_t_prior_42, x_t_prior_43, x_t_prior_44, x_t_prior_47, sp_t_isLevel, sp_within, XK_s, b01_eq0, eq_false p1, not_false_eq_true, if_true]
      exact fin
theorem pr_quota (hI : INV t iv jv) (x y z : Int32) : XM (d + 12) Yt_quota [.ref 0, .int x, .int y, .int z] iv jv (Q1 (d + 12) t Ym_quota [.ref 118, .int x, .int y, .int z]) := by
  obtain ⟨G, hT, hC, hG, hM, hS⟩ := hI
  have hB := hT.1
  by_cases h : isQ x y z
  · obtain ⟨⟨h1, h2⟩, h3, h4, h5⟩ := id h
    obtain ⟨a, ha, rfl⟩ := nat8 (m := 2) (x := x) ⟨h1, h2⟩ (by decide)
    obtain ⟨lo, hlo, rfl⟩ := nat8 (m := 8) (x := y) ⟨h3, by omega⟩ (by decide)
    obtain ⟨hi, hhi, rfl⟩ := nat8 (m := 8) (x := z) ⟨by omega, h5⟩ (by decide)
    rw [nI_toI (by omega), nI_toI (by omega)] at h4
    have hle : lo ≤ hi := by omega
    obtain ⟨cf, cp, ca, cb, cw, ck, ci⟩ := cr1 hC
    obtain ⟨a1, a2, a3⟩ := ca a (by omega)
    have b7 := hB.2.2.2.2.2.2.1 a (by omega)
    have p1 : ((0 : Nat) : Int) ≤ (nI a).toInt ∧ (nI a).toInt ≤ ((2 : Nat) : Int) := by rw [nI_toI (by omega)]; omega
    have hl8 : lo ≤ 8 := hlo
    simp (disch := first | assumption | omega) only [e_t_quota, x_t_quota_0, x_t_quota_1, x_t_quota_4, x_t_quota_7, x_t_quota_8, x_t_quota_9, x_t_quota_11, x_t_quota_14, x_t_quota_17, x_t_quota_18, x_t_quota_19, x_t_quota_21, x_t_quota_24, x_t_quota_27, x_t_quota_29, x_t_quota_30, x_t_quota_31, x_t_quota_32, x_t_quota_35, x_t_quota_37, x_t_quota_38, x_t_quota_40, x_t_quota_41, x_t_quota_44, x_t_quota_47, x_t_quota_48, x_t_quota_49, x_t_quota_50, x_t_quota_51, x_t_quota_54, x_t_quota_57, x_t_quota_58, x_t_quota_59, x_t_quota_60, x_t_quota_62, x_t_quota_63, x_t_quota_66, x_t_quota_69, x_t_quota_70, x_t_quota_71, x_t_quota_72, x_t_quota_73, x_t_quota_76, x_t_quota_79, x_t_quota_80, x_t_quota_81, x_t_quota_82, x_t_quota_84, sp_t_isArea, sp_withinN, XK_s, b01_eq0, eq_true p1, hlo, hhi, Nat.zero_le, and_self, not_true_eq_false, if_false, q_le, hle, if_true, q_in, q_tn, true_and, a1, a2, q_mul, q_add]
    refine Q1_i ?_
    rw [sp_m_quota (d := d + 9) (show a < 3 from by omega) hle hhi hG hB]
    have hB2 : IB (up (up G (18 + a) lo) (21 + a) hi) := IB_up (IB_up hB ⟨by omega, fun _ _ => hlo, by omega, by omega, by omega, by omega⟩ (by omega)) ⟨by omega, fun _ _ => hhi, by omega, by omega, by omega, by omega⟩ (by omega)
    have u : ∀ j, j ≠ 18 + a → j ≠ 21 + a → up (up G (18 + a) lo) (21 + a) hi j = G j := fun j h1 h2 => by rw [up_ne h2, up_ne h1]
    refine Q2_i (INV_mk (G' := up (up G (18 + a) lo) (21 + a) hi) hM hS ⟨fun q k e => ?_, fun _ _ _ => rfl⟩ (CR_same (G := G) isB1 hC hB (fun l hl => u _ (by omega) (by omega)) (u _ (by omega) (by omega)) (fun j h1 h2 => u _ (by omega) (by omega)) (fun i k h1 h2 h3 => u _ (by omega) (by omega)) (fun j h1 => u _ (by omega) (by omega)) (fun q k e1 e2 e3 e4 e5 => ?_) ?_ ?_ ?_ (fun a' ha' => ⟨?_, ?_⟩) (fun r hr => ?_) (fun i hi => ?_)) (FW_9 (fun q k hq => by rw [upj_ne hq, upj_ne hq])) (RG_up (RG_up hG _ _) _ _) (ST_s (ST_up (ST_up hT (IB_up hB ⟨by omega, fun _ _ => hlo, by omega, by omega, by omega, by omega⟩ (by omega)) (by omega) (by omega)) hB2 (by omega) (by omega))))
    · rw [upi_ne (by omega), upi_ne (by omega)]
    · rw [upi_ne (by omega), upi_ne (by omega)]
    · rw [upi_ne (by omega), upi_ne (by omega), u _ (by omega) (by omega)]; exact cf.1
    · rw [upi_ne (by omega), upi_ne (by omega), u _ (by omega) (by omega)]; exact cf.2.1
    · rw [upi_ne (by omega), upi_ne (by omega), u _ (by omega) (by omega)]; exact cf.2.2.1
    · rw [upi_ne (by omega)]
      by_cases e : a' = a
      · subst e; rw [upi_at, up_ne (by omega), up_at]
      · rw [upi_ne (by omega), u _ (by omega) (by omega)]; exact (ca a' ha').1
    · by_cases e : a' = a
      · subst e; rw [upi_at, up_at]
      · rw [upi_ne (by omega), upi_ne (by omega), u _ (by omega) (by omega)]; exact (ca a' ha').2.1
    · rw [upi_ne (by omega), upi_ne (by omega), u _ (by omega) (by omega)]; exact cb r hr
    · have := hB.1
      rw [upi_ne (by omega), upi_ne (by omega), u _ (by omega) (by omega)]; exact (ci i hi).1.2.2.2.2.1
  · have fin : Q1 (d + 12) t Ym_quota [.ref 118, .int x, .int y, .int z] (some (.int (-2))) (mk iv jv) := by
      refine Q1_i ?_
      rw [sp_m_quota_bad (d := d + 9) h]
      exact Q2_i (INV_r hT hC hG hM hS)
    unfold isQ at h
    by_cases p1 : ((0 : Nat) : Int) ≤ x.toInt ∧ x.toInt ≤ ((2 : Nat) : Int)
    · by_cases p2 : ((0 : Nat) : Int) ≤ y.toInt ∧ y.toInt ≤ ((8 : Nat) : Int)
      · by_cases p3 : ((0 : Nat) : Int) ≤ z.toInt ∧ z.toInt ≤ ((8 : Nat) : Int)
        · have p4 : ¬ (y ≤ z) := by rw [Int32.le_iff_toInt_le]; omega
          simp (disch := first | assumption | omega) only [e_t_quota, x_t_quota_0, x_t_quota_1, x_t_quota_4, x_t_quota_7, x_t_quota_8, x_t_quota_9, x_t_quota_11, x_t_quota_14, x_t_quota_17, x_t_quota_18, x_t_quota_19, x_t_quota_21, x_t_quota_24, x_t_quota_27, x_t_quota_29, x_t_quota_30, x_t_quota_31, x_t_quota_32, x_t_quota_35, x_t_quota_37, x_t_quota_38, x_t_quota_40, x_t_quota_41, x_t_quota_44, x_t_quota_47, x_t_quota_48, x_t_quota_49, x_t_quota_50, x_t_quota_51, x_t_quota_54, x_t_quota_57, x_t_quota_58, x_t_quota_59, x_t_quota_60, x_t_quota_62, x_t_quota_63, x_t_quota_66, x_t_quota_69, x_t_quota_70, x_t_quota_71, x_t_quota_72, x_t_quota_73, x_t_quota_76, x_t_quota_79, x_t_quota_80, x_t_quota_81, x_t_quota_82, x_t_quota_84, sp_t_isArea, sp_within, XK_s, b01_eq0, eq_true p1, eq_true p2, eq_true p3, eq_false p4, not_true_eq_false, if_false]
          exact fin
        · simp (disch := first | assumption | omega) only [e_t_quota, x_t_quota_0, x_t_quota_1, x_t_quota_4, x_t_quota_7, x_t_quota_8, x_t_quota_9, x_t_quota_11, x_t_quota_14, x_t_quota_17, x_t_quota_18, x_t_quota_19, x_t_quota_21, x_t_quota_24, x_t_quota_27, x_t_quota_29, x_t_quota_30, x_t_quota_31, x_t_quota_32, x_t_quota_35, x_t_quota_37, x_t_quota_38, x_t_quota_40, x_t_quota_41, x_t_quota_44, x_t_quota_47, x_t_quota_48, x_t_quota_49, x_t_quota_50, x_t_quota_51, x_t_quota_54, x_t_quota_57, x_t_quota_58, x_t_quota_59, x_t_quota_60, x_t_quota_62, x_t_quota_63, x_t_quota_66, x_t_quota_69, x_t_quota_70, x_t_quota_71, x_t_quota_72, x_t_quota_73, x_t_quota_76, x_t_quota_79, x_t_quota_80, x_t_quota_81, x_t_quota_82, x_t_quota_84, sp_t_isArea, sp_within, XK_s, b01_eq0, eq_true p1, eq_true p2, eq_false p3, not_true_eq_false, not_false_eq_true, if_false, if_true]
          exact fin
      · simp (disch := first | assumption | omega) only [e_t_quota, x_t_quota_0, x_t_quota_1, x_t_quota_4, x_t_quota_7, x_t_quota_8, x_t_quota_9, x_t_quota_11, x_t_quota_14, x_t_quota_17, x_t_quota_18, x_t_quota_19, x_t_quota_21, x_t_quota_24, x_t_quota_27, x_t_quota_29, x_t_quota_30, x_t_quota_31, x_t_quota_32, x_t_quota_35, x_t_quota_37, x_t_quota_38, x_t_quota_40, x_t_quota_41, x_t_quota_44, x_t_quota_47, x_t_quota_48, x_t_quota_49, x_t_quota_50, x_t_quota_51, x_t_quota_54, x_t_quota_57, x_t_quota_58, x_t_quota_59, x_t_quota_60, x_t_quota_62, x_t_quota_63, x_t_quota_66, x_t_quota_69, x_t_quota_70, x_t_quota_71, x_t_quota_72, x_t_quota_73, x_t_quota_76, x_t_quota_79, x_t_quota_80, x_t_quota_81, x_t_quota_82, x_t_quota_84, sp_t_isArea, sp_within, XK_s, b01_eq0, eq_true p1, eq_false p2, not_true_eq_false, not_false_eq_true, if_false, if_true]
        exact fin
    · simp (disch := first | assumption | omega) only [e_t_quota, x_t_quota_0, x_t_quota_1, x_t_quota_4, x_t_quota_7, x_t_quota_8, x_t_quota_9, x_t_quota_11, x_t_quota_14, x_t_quota_17, x_t_quota_18, x_t_quota_19, x_t_quota_21, x_t_quota_24, x_t_quota_27, x_t_quota_29, x_t_quota_30, x_t_quota_31, x_t_quota_32, x_t_quota_35, x_t_quota_37, x_t_quota_38, x_t_quota_40, x_t_quota_41, x_t_quota_44, x_t_quota_47, x_t_quota_48, x_t_quota_49, x_t_quota_50, x_t_quota_51, x_t_quota_54, x_t_quota_57, x_t_quota_58, x_t_quota_59, x_t_quota_60, x_t_quota_62, x_t_quota_63, x_t_quota_66, x_t_quota_69, x_t_quota_70, x_t_quota_71, x_t_quota_72, x_t_quota_73, x_t_quota_76, x_t_quota_79, x_t_quota_80, x_t_quota_81, x_t_quota_82, x_t_quota_84, sp_t_isArea, sp_within, XK_s, b01_eq0, eq_false p1, not_false_eq_true, if_true]
      exact fin
end PAIR1
