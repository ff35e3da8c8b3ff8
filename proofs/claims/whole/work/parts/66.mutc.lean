section MUTC
variable {d : Nat} {iv : mI} {jv : mJ} {Q : Option Value → mH → Prop} {G : Nat → Nat} {B v : Nat}
/-! finish -/
def H67 (B q k : Nat) : Prop := (k = 6 ∨ k = 7) ∧ B + 12 ≤ q ∧ q < B + 36 ∧ (q - B) % 3 = 0
theorem H67_n {B q k : Nat} (h : (k ≠ 6 ∧ k ≠ 7) ∨ q < B + 12 ∨ B + 36 ≤ q ∨ (q - B) % 3 ≠ 0) : ¬ H67 B q k := by unfold H67; omega
theorem lp_o_finish {x : Int32} (hb : isB B) (hB : IB G) (c9 : iv B 9 = nI (G 29)) (hQ : ∀ iv', (∀ q k, ¬ H67 B q k → iv' q k = iv q k) → (∀ i, i < G 29 → iv' (B + 12 + 3 * i) 6 = nI 0 ∧ iv' (B + 12 + 3 * i) 7 = -1) → (∀ i, i < 8 → G 29 ≤ i → iv' (B + 12 + 3 * i) 6 = iv (B + 12 + 3 * i) 6) → XT (d + 1) Yo_finish 17 [.ref B, .int x, .int (nI (G 29))] [] iv' jv Q) : ∀ n i, i + n = G 29 → ∀ iv1, (∀ q k, ¬ H67 B q k → iv1 q k = iv q k) → (∀ j, j < i → iv1 (B + 12 + 3 * j) 6 = nI 0 ∧ iv1 (B + 12 + 3 * j) 7 = -1) → (∀ j, j < 8 → i ≤ j → iv1 (B + 12 + 3 * j) 6 = iv (B + 12 + 3 * j) 6) → XT (d + 1) Yo_finish 17 [.ref B, .int x, .int (nI i)] [] iv1 jv Q := by
  obtain ⟨s0, s1, s2, s3, s4, s5, s6, s7, s8, s9, s10, s11⟩ := sB hb
  have e18 : ((18 : Nat) = 18 ∨ (18 : Nat) = 19) = True := by simp
  have hlb := lt_B hb
  have b1 := hB.1
  intro n
  induction n with
  | zero =>
    intro i hi iv1 h1 h2 h3
    obtain rfl : i = G 29 := by omega
    exact hQ iv1 h1 h2 h3
  | succ n ih =>
    intro i hi iv1 h1 h2 h3
    have h4 : ¬ G 29 ≤ i := by omega
    have hi8 : i < 8 := by omega
    obtain ⟨t0, t1, t2⟩ := sI hb hi8
    have v9 := (h1 B 9 (H67_n (by omega))).trans c9
    rw [x_o_finish_17]
    simp (disch := first | assumption | omega) only [x_o_finish_0, x_o_finish_1, x_o_finish_4, x_o_finish_5, x_o_finish_6, x_o_finish_7, x_o_finish_10, x_o_finish_11, x_o_finish_12, x_o_finish_15, x_o_finish_16, x_o_finish_18, x_o_finish_19, x_o_finish_22, x_o_finish_25, x_o_finish_26, x_o_finish_29, x_o_finish_30, x_o_finish_31, x_o_finish_32, x_o_finish_35, x_o_finish_36, x_o_finish_39, x_o_finish_40, x_o_finish_41, x_o_finish_42, x_o_finish_45, x_o_finish_48, x_o_finish_51, x_o_finish_52, x_o_finish_55, x_o_finish_56, x_o_finish_59, x_o_finish_62, x_o_finish_63, s0, s5, e18, true_and, true_or, v9, q_le, h4, if_false, q_in, q_tn, rI hb, t0, z01, q_add]
    refine ih (i + 1) (by omega) _ (fun q k hq => ?_) (fun j hj => ?_) (fun j hj hij => ?_)
    · rw [upi_ne (fun e => hq ?_), upi_ne (fun e => hq ?_)]
      · exact h1 q k hq
      · obtain ⟨rfl, rfl⟩ := e
        unfold H67; omega
      · obtain ⟨rfl, rfl⟩ := e
        unfold H67; omega
    · by_cases ej : j = i
      · subst ej
        refine ⟨?_, upi_at _ _ _ _⟩
        rw [upi_ne (by omega), upi_at]
      · rw [upi_ne (by omega), upi_ne (by omega), upi_ne (by omega), upi_ne (by omega)]; exact h2 j (by omega)
    · rw [upi_ne (by omega), upi_ne (by omega)]; exact h3 j hj (by omega)
theorem endG_ne {j : Nat} (h1 : j ≠ 34) (h2 : j ≠ 35) (h3 : j ≠ 36) : endG G j = G j := by
  unfold endG; rw [up_ne h2, up_ne h3, up_ne h1]
theorem endG_34 (G : Nat → Nat) : endG G 34 = 0 := by unfold endG; rw [up_ne (by decide), up_ne (by decide), up_at]
theorem endG_35 (G : Nat → Nat) : endG G 35 = 0 := by unfold endG; rw [up_at]
theorem endG_36 (G : Nat → Nat) : endG G 36 = 0 := by unfold endG; rw [up_ne (by decide), up_at]
theorem wt_end (G : Nat → Nat) : ∀ l, l < 9 → wt (endG G) 0 l = G l := fun l hl => by
  rw [wt_0, endG_34, if_neg (by decide), endG_ne (by omega) (by omega) (by omega)]
theorem CR_end {iv' : mI} {jv' : mJ} (hb : isB B) (hC : CR B G iv jv) (hB : IB G)
    (u : ∀ q k, ¬ H67 B q k → ¬ (q = B ∧ (k = 11 ∨ k = 14)) → iv' q k = iv q k) (u11 : iv' B 11 = nI 0) (u14 : iv' B 14 = nI 0) (u6 : ∀ i, i < G 29 → iv' (B + 12 + 3 * i) 6 = nI 0 ∧ iv' (B + 12 + 3 * i) 7 = -1) (u6' : ∀ i, i < 8 → G 29 ≤ i → iv' (B + 12 + 3 * i) 6 = iv (B + 12 + 3 * i) 6) (hW : WR (B + 7) G jv') : CR B (endG G) iv' jv' := by
  obtain ⟨⟨c4, c5, c6, c7, c9, c11, c14⟩, cp, ca, cb, cw, ck, cm, ci, ch⟩ := hC
  have b1 := hB.1
  refine ⟨⟨?_, ?_, ?_, ?_, ?_, ?_, ?_⟩, fun l hl => ?_, fun a ha => ⟨?_, ?_, ?_⟩, fun r' hr' => ?_, ?_, fun k hk => ?_, fun hon k hk => ?_, fun j hj => ?_, fun j hj => ?_⟩
  · rw [u _ _ (H67_n (by omega)) (by omega), endG_ne (by omega) (by omega) (by omega)]; exact c4
  · rw [u _ _ (H67_n (by omega)) (by omega), endG_ne (by omega) (by omega) (by omega)]; exact c5
  · rw [u _ _ (H67_n (by omega)) (by omega), endG_ne (by omega) (by omega) (by omega)]; exact c6
  · rw [u _ _ (H67_n (by omega)) (by omega), endG_ne (by omega) (by omega) (by omega)]; exact c7
  · rw [u _ _ (H67_n (by omega)) (by omega), endG_ne (by omega) (by omega) (by omega)]; exact c9
  · rw [endG_34]; exact u11
  · rw [endG_36]; exact u14
  · rw [u _ _ (H67_n (by omega)) (by omega), endG_ne (by omega) (by omega) (by omega)]; exact cp l hl
  · rw [u _ _ (H67_n (by omega)) (by omega), endG_ne (by omega) (by omega) (by omega)]; exact (ca a ha).1
  · rw [u _ _ (H67_n (by omega)) (by omega), endG_ne (by omega) (by omega) (by omega)]; exact (ca a ha).2.1
  · rw [u _ _ (H67_n (by omega)) (by omega), endG_ne (by omega) (by omega) (by omega), arS_congr a (G 29) (fun j hj => endG_ne (by omega) (by omega) (by omega))]; exact (ca a ha).2.2
  · rw [u _ _ (H67_n (by omega)) (by omega), endG_ne (by omega) (by omega) (by omega)]; exact cb r' hr'
  · refine WR_congr (fun l hl => ?_) hW
    show _ = wt (endG G) (endG G 36) l
    rw [endG_36, wt_end G l hl]
  · rw [endG_36] at hk; omega
  · rw [endG_34] at hon; omega
  · rw [endG_ne (by omega) (by omega) (by omega)] at hj
    obtain ⟨⟨f0, f1, f2, f3, f4, f5, f6, f7⟩, fr, ft⟩ := ci j hj
    have hz : b01 ((0 : Nat).testBit j = true) = nI 0 := b01_f (by simp)
    unfold CI
    rw [endG_ne (by omega) (by omega) (by omega), endG_ne (by omega) (by omega) (by omega), endG_ne (by omega) (by omega) (by omega), endG_ne (by omega) (by omega) (by omega), endG_ne (by omega) (by omega) (by omega), endG_ne (by omega) (by omega) (by omega), endG_35, endG_36, hz]
    refine ⟨⟨?_, ?_, ?_, ?_, ?_, ?_, (u6 j hj).1, (u6 j hj).2⟩, fun l hl => ?_, fun l hl => ?_⟩
    · rw [u _ _ (H67_n (by omega)) (by omega)]; exact f0
    · rw [u _ _ (H67_n (by omega)) (by omega)]; exact f1
    · rw [u _ _ (H67_n (by omega)) (by omega)]; exact f2
    · rw [u _ _ (H67_n (by omega)) (by omega)]; exact f3
    · rw [u _ _ (H67_n (by omega)) (by omega)]; exact f4
    · rw [u _ _ (H67_n (by omega)) (by omega)]; exact f5
    · rw [u _ _ (H67_n (by omega)) (by omega)]; exact fr l hl
    · rw [u _ _ (H67_n (by omega)) (by omega)]; exact ft l hl
  · by_cases e29 : j < G 29
    · rw [(u6 j e29).1]; exact Or.inl rfl
    · rw [u6' j hj (by omega)]; exact ch j hj
theorem sp_o_finish (hb : isB B) (hC : CR B G iv jv) (hB : IB G) (hQ : ∀ iv' jv', FB B iv jv iv' jv' → CR B (endG G) iv' jv' → Q (some (.int (nI (G 36)))) (mk iv' jv')) : XM (d + 4) Yo_finish [.ref B] iv jv Q := by
  obtain ⟨⟨c4, c5, c6, c7, c9, c11, c14⟩, cp, ca, cb, cw, ck, cm, ci, ch⟩ := id hC
  obtain ⟨s0, s1, s2, s3, s4, s5, s6, s7, s8, s9, s10, s11⟩ := sB hb
  have hlb := lt_B hb
  have b1 := hB.1
  have b6 := hB.2.2.2.2.2.1
  simp (disch := first | assumption | omega) only [e_o_finish, x_o_finish_0, x_o_finish_1, x_o_finish_4, x_o_finish_5, x_o_finish_6, x_o_finish_7, x_o_finish_10, x_o_finish_11, x_o_finish_12, x_o_finish_15, x_o_finish_16, x_o_finish_18, x_o_finish_19, x_o_finish_22, x_o_finish_25, x_o_finish_26, x_o_finish_29, x_o_finish_30, x_o_finish_31, x_o_finish_32, x_o_finish_35, x_o_finish_36, x_o_finish_39, x_o_finish_40, x_o_finish_41, x_o_finish_42, x_o_finish_45, x_o_finish_48, x_o_finish_51, x_o_finish_52, x_o_finish_55, x_o_finish_56, x_o_finish_59, x_o_finish_62, x_o_finish_63, s0, true_and, c14, z01, true_or]
  refine lp_o_finish (d := d + 2) (iv := upi (upi iv B 11 (nI 0)) B 14 (nI 0)) hb hB ?_ (fun iv1 h1 h2 h3 => ?_) (G 29) 0 (by omega) _ (fun _ _ _ => rfl) (fun j hj => absurd hj (by omega)) (fun _ _ _ => rfl)
  · rw [upi_ne (by omega), upi_ne (by omega)]; exact c9
  · have v9 : iv1 B 9 = nI (G 29) := by rw [h1 _ _ (H67_n (by omega)), upi_ne (by omega), upi_ne (by omega)]; exact c9
    rw [x_o_finish_17]
    simp (disch := first | assumption | omega) only [x_o_finish_0, x_o_finish_1, x_o_finish_4, x_o_finish_5, x_o_finish_6, x_o_finish_7, x_o_finish_10, x_o_finish_11, x_o_finish_12, x_o_finish_15, x_o_finish_16, x_o_finish_18, x_o_finish_19, x_o_finish_22, x_o_finish_25, x_o_finish_26, x_o_finish_29, x_o_finish_30, x_o_finish_31, x_o_finish_32, x_o_finish_35, x_o_finish_36, x_o_finish_39, x_o_finish_40, x_o_finish_41, x_o_finish_42, x_o_finish_45, x_o_finish_48, x_o_finish_51, x_o_finish_52, x_o_finish_55, x_o_finish_56, x_o_finish_59, x_o_finish_62, x_o_finish_63, s0, s7, true_and, v9, q_le, Nat.le_refl, if_true]
    refine sp_w_become (f := G) s7 s8 s1 (by omega) (fun l hl => by have := b6 l (by omega); omega) (fun l hl => ?_) (fun jv1 hF1 hW1 => ?_)
    · rw [h1 _ _ (H67_n (by omega)), upi_ne (by omega), upi_ne (by omega)]; exact cp l hl
    · simp (disch := first | assumption | omega) only [XK_n, x_o_finish_0, x_o_finish_1, x_o_finish_4, x_o_finish_5, x_o_finish_6, x_o_finish_7, x_o_finish_10, x_o_finish_11, x_o_finish_12, x_o_finish_15, x_o_finish_16, x_o_finish_18, x_o_finish_19, x_o_finish_22, x_o_finish_25, x_o_finish_26, x_o_finish_29, x_o_finish_30, x_o_finish_31, x_o_finish_32, x_o_finish_35, x_o_finish_36, x_o_finish_39, x_o_finish_40, x_o_finish_41, x_o_finish_42, x_o_finish_45, x_o_finish_48, x_o_finish_51, x_o_finish_52, x_o_finish_55, x_o_finish_56, x_o_finish_59, x_o_finish_62, x_o_finish_63]
      refine hQ _ _ ⟨fun q k hq => ?_, (FJ_FB (iv := iv) hF1).2⟩ (CR_end hb hC hB (fun q k e1 e2 => ?_) ?_ ?_ h2 (fun i hi hi' => ?_) hW1)
      · rw [h1 _ _ (H67_n (by omega)), upi_ne (by omega), upi_ne (by omega)]
      · rw [h1 _ _ e1, upi_ne (by omega), upi_ne (by omega)]
      · rw [h1 _ _ (H67_n (by omega)), upi_ne (by omega), upi_at]
      · rw [h1 _ _ (H67_n (by omega)), upi_at]
      · rw [h3 i hi hi', upi_ne (by omega), upi_ne (by omega)]
/-! changePrior -/
theorem wt_up {l v : Nat} (hl : l < 9) (hon : G 34 = 1) : ∀ k l', l' < 9 → wt (up G l v) k l' = wt G k l' := by
  intro k
  refine wt_congr (fun l' hl' => ?_) k (fun j hj => ⟨up_ne (by omega), up_ne (by omega), fun l' => rgt_congr (fun k hk => up_ne (by omega)) l'⟩)
  rw [wt_0, wt_0, up_ne (by omega), if_pos hon, if_pos hon, up_ne (by omega)]
theorem CR_prior {l v : Nat} {iv' : mI} {jv' : mJ} (hb : isB B) (hl : l < 9) (hC : CR B G iv jv) (u : ∀ q k, ¬ (q = B + 1 ∧ k = l) → iv' q k = iv q k) (u1 : iv' (B + 1) l = nI v) (hW : WR (B + 7) (WN (up G l v)) jv') : CR B (up G l v) iv' jv' := by
  obtain ⟨⟨c4, c5, c6, c7, c9, c11, c14⟩, cp, ca, cb, cw, ck, cm, ci, ch⟩ := hC
  have e : ∀ j, 9 ≤ j → up G l v j = G j := fun j hj => up_ne (by omega)
  refine ⟨⟨?_, ?_, ?_, ?_, ?_, ?_, ?_⟩, fun l' hl' => ?_, fun a ha => ⟨?_, ?_, ?_⟩, fun r' hr' => ?_, hW, fun k hk => ?_, fun hon k hk => ?_, fun j hj => ?_, fun j hj => ?_⟩
  · rw [u _ _ (by omega), e _ (by omega)]; exact c4
  · rw [u _ _ (by omega), e _ (by omega)]; exact c5
  · rw [u _ _ (by omega), e _ (by omega)]; exact c6
  · rw [u _ _ (by omega), e _ (by omega)]; exact c7
  · rw [u _ _ (by omega), e _ (by omega)]; exact c9
  · rw [u _ _ (by omega), e _ (by omega)]; exact c11
  · rw [u _ _ (by omega), e _ (by omega)]; exact c14
  · by_cases el : l' = l
    · subst el; rw [up_at]; exact u1
    · rw [u _ _ (by omega), up_ne el]; exact cp l' hl'
  · rw [u _ _ (by omega), e _ (by omega)]; exact (ca a ha).1
  · rw [u _ _ (by omega), e _ (by omega)]; exact (ca a ha).2.1
  · rw [u _ _ (by omega), e _ (by omega), arS_congr a (G 29) (fun j hj => e _ (by omega))]; exact (ca a ha).2.2
  · rw [u _ _ (by omega), e _ (by omega)]; exact cb r' hr'
  · rw [e _ (by omega)] at hk
    rw [u _ _ (by omega), e _ (by omega)]; exact ck k hk
  · rw [e _ (by omega)] at hk hon
    rw [u _ _ (by omega), mdF_congr 8 (fun l' hl' => wt_up hl hon k l' (by omega))]; exact cm hon k hk
  · rw [e _ (by omega)] at hj
    refine CI_congr (ci j hj) (fun k hk => e _ (by omega)) (by rw [e _ (by omega)]) ?_ (fun k hk => u _ _ (by omega)) (fun k hk => u _ _ (by omega)) (fun k hk => u _ _ (by omega))
    rw [e 36 (by omega)]
    exact aoR_congr j _ _ (fun j' _ _ => ⟨e _ (by omega), e _ (by omega)⟩)
  · rw [u _ _ (by omega)]; exact ch j hj
theorem sp_o_changePrior {l v : Nat} (hb : isB B) (hC : CR B G iv jv) (hB : IB G) (hl : l < 9) (hv : v ≤ 2000000000) (hoff : G 34 ≠ 1 → G 36 = 0) (hQ : ∀ iv' jv', FB B iv jv iv' jv' → CR B (up G l v) iv' jv' → Q (some (.int (nI (G l)))) (mk iv' jv')) : XM (d + 4) Yo_changePrior [.ref B, .int (nI l), .int (nI v)] iv jv Q := by
  obtain ⟨⟨c4, c5, c6, c7, c9, c11, c14⟩, cp, ca, cb, cw, ck, cm, ci, ch⟩ := id hC
  obtain ⟨s0, s1, s2, s3, s4, s5, s6, s7, s8, s9, s10, s11⟩ := sB hb
  have hlb := lt_B hb
  have b6 := hB.2.2.2.2.2.1
  have b34 : G 34 ≤ 1 := hB.2.2.2.2.2.2.2.2.2.2.2.2
  have n1 := ne1001 (k := 1) hb (by decide)
  have pl := cp l hl
  by_cases hon : G 34 = 1
  · have h0 : ¬ G 34 = 0 := by omega
    simp (disch := first | assumption | omega) only [e_o_changePrior, x_o_changePrior_0, x_o_changePrior_1, x_o_changePrior_4, x_o_changePrior_5, x_o_changePrior_6, x_o_changePrior_7, x_o_changePrior_8, x_o_changePrior_11, x_o_changePrior_12, x_o_changePrior_13, x_o_changePrior_14, x_o_changePrior_15, x_o_changePrior_18, x_o_changePrior_21, x_o_changePrior_22, x_o_changePrior_25, x_o_changePrior_26, x_o_changePrior_29, x_o_changePrior_32, x_o_changePrior_33, s0, s1, n1, if_false, true_and, true_or, q_in, q_tn, pl, upi_ne, c11, qn0, h0]
    refine hQ _ _ ⟨fun q k hq => upi_ne (by omega), fun _ _ _ => rfl⟩ (CR_prior hb hl hC (fun q k hq => upi_ne hq) (upi_at _ _ _ _) (WR_congr (fun l' hl' => ?_) cw))
    show _ = wt (up G l v) (up G l v 36) l'
    rw [up_ne (by omega), wt_up hl hon _ l' hl']; rfl
  · have h0 : G 34 = 0 := by omega
    simp (disch := first | assumption | omega) only [e_o_changePrior, x_o_changePrior_0, x_o_changePrior_1, x_o_changePrior_4, x_o_changePrior_5, x_o_changePrior_6, x_o_changePrior_7, x_o_changePrior_8, x_o_changePrior_11, x_o_changePrior_12, x_o_changePrior_13, x_o_changePrior_14, x_o_changePrior_15, x_o_changePrior_18, x_o_changePrior_21, x_o_changePrior_22, x_o_changePrior_25, x_o_changePrior_26, x_o_changePrior_29, x_o_changePrior_32, x_o_changePrior_33, s0, s1, s7, n1, if_false, true_and, true_or, q_in, q_tn, pl, upi_ne, c11, qn0, h0, if_true]
    refine sp_w_become (f := up G l v) s7 s8 s1 (by omega) (fun l' hl' => ?_) (fun l' hl' => ?_) (fun jv1 hF1 hW1 => ?_)
    · by_cases e : l' = l
      · subst e; rw [up_at]; omega
      · rw [up_ne e]; have := b6 l' (by omega); omega
    · by_cases e : l' = l
      · subst e; rw [up_at, upi_at]
      · rw [up_ne e, upi_ne (by omega)]; exact cp l' hl'
    · simp (disch := first | assumption | omega) only [XK_n, x_o_changePrior_0, x_o_changePrior_1, x_o_changePrior_4, x_o_changePrior_5, x_o_changePrior_6, x_o_changePrior_7, x_o_changePrior_8, x_o_changePrior_11, x_o_changePrior_12, x_o_changePrior_13, x_o_changePrior_14, x_o_changePrior_15, x_o_changePrior_18, x_o_changePrior_21, x_o_changePrior_22, x_o_changePrior_25, x_o_changePrior_26, x_o_changePrior_29, x_o_changePrior_32, x_o_changePrior_33]
      refine hQ _ _ ⟨fun q k hq => upi_ne (by omega), (FJ_FB (iv := iv) hF1).2⟩ (CR_prior hb hl hC (fun q k hq => upi_ne hq) (upi_at _ _ _ _) (WR_congr (fun l' hl' => ?_) hW1))
      show _ = wt (up G l v) (up G l v 36) l'
      rw [show up G l v 36 = G 36 from up_ne (by omega), hoff hon, wt_0, show up G l v 34 = G 34 from up_ne (by omega), if_neg hon]
end MUTC
