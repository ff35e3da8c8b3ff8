section COURSE3
variable {d : Nat} {iv : mI} {jv : mJ} {Q : Option Value → mH → Prop} {G : Nat → Nat} {B : Nat}
theorem gst_congr (c : Nat → Nat) {f g : Nat → Nat} : ∀ n, (∀ l, l < n → f l = g l) → gst c f n = gst c g n
  | 0, _ => rfl
  | n + 1, h => by rw [gst_s, gst_s, gst_congr c n (fun l hl => h l (by omega)), h n (by omega)]
theorem mdF_congr {f g : Nat → Nat} : ∀ n, (∀ l, l ≤ n → f l = g l) → mdF f n = mdF g n
  | 0, _ => rfl
  | n + 1, h => by
    have e := mdF_congr n (fun l hl => h l (by omega))
    have := mdF_le g n
    show (if f (mdF f n) < f (n + 1) then n + 1 else mdF f n) = (if g (mdF g n) < g (n + 1) then n + 1 else mdF g n)
    rw [e, h (mdF g n) (by omega), h (n + 1) (by omega)]
theorem dv_congr {f g : Nat → Nat} (h : ∀ l, l < 9 → f l = g l) {l : Nat} (hl : l < 9) : dv f l = dv g l := by
  unfold dv; rw [gcn_congr 9 h, h l hl]
theorem wt_s (G : Nat → Nat) (k : Nat) : wt G (k + 1) = dv (ml G (G (85 + 2 * k)) (G (85 + 2 * k + 1)) (wt G k)) := rfl
theorem wt_0 (G : Nat → Nat) (l : Nat) : wt G 0 l = if G 34 = 1 then G (9 + l) else G l := rfl
theorem cf_congr {G G' : Nat → Nat} {i : Nat} (r l : Nat) (h : rgt G' i l = rgt G i l) : cf G' i r l = cf G i r l := by unfold cf; rw [h]
theorem wt_congr {G G' : Nat → Nat} (h0 : ∀ l, l < 9 → wt G' 0 l = wt G 0 l) : ∀ k, (∀ j, j < k → G' (85 + 2 * j) = G (85 + 2 * j) ∧ G' (85 + 2 * j + 1) = G (85 + 2 * j + 1) ∧ ∀ l, rgt G' (G (85 + 2 * j)) l = rgt G (G (85 + 2 * j)) l) → ∀ l, l < 9 → wt G' k l = wt G k l
  | 0, _, l, hl => h0 l hl
  | k + 1, h, l, hl => by
    obtain ⟨e1, e2, e3⟩ := h k (by omega)
    rw [wt_s, wt_s, e1, e2]
    refine dv_congr (fun l hl => ?_) hl
    unfold ml
    rw [wt_congr h0 k (fun j hj => h j (by omega)) l hl, cf_congr _ _ (e3 l)]
theorem WR_congr {w : Nat} {f g : Nat → Nat} {jv : mJ} (h : ∀ l, l < 9 → f l = g l) (hR : WR w f jv) : WR w g jv := by
  obtain ⟨r, a, b, c⟩ := hR
  refine ⟨fun l hl => by rw [← h l hl]; exact r l hl, ?_, ?_, ?_⟩
  · rw [← gst_congr c1 9 h]; exact a
  · rw [← gst_congr cl 9 h]; exact b
  · rw [← gst_congr cq 9 h]; exact c
theorem rgt_congr {G G' : Nat → Nat} {i : Nat} (h : ∀ k, k < 4 → G' (37 + 6 * i + k) = G (37 + 6 * i + k)) (l : Nat) : rgt G' i l = rgt G i l := by
  have e0 : G' (37 + 6 * i) = G (37 + 6 * i) := h 0 (by decide)
  unfold rgt; rw [e0, h 2 (by decide), h 3 (by decide)]
theorem arS_congr {G G' : Nat → Nat} (a : Nat) : ∀ n, (∀ j, j < n → G' (37 + 6 * j + 1) = G (37 + 6 * j + 1)) → arS G' a n = arS G a n
  | 0, _ => rfl
  | n + 1, h => by rw [arS_s, arS_s, arS_congr a n (fun j hj => h j (by omega)), h n (by omega)]
theorem aoR_congr {G G' : Nat → Nat} (i : Nat) : ∀ n k, (∀ j, k ≤ j → j < k + n → G' (85 + 2 * j) = G (85 + 2 * j) ∧ G' (85 + 2 * j + 1) = G (85 + 2 * j + 1)) → aoR G' i n k = aoR G i n k
  | 0, _, _ => rfl
  | n + 1, k, h => by
    obtain ⟨e1, e2⟩ := h k (Nat.le_refl _) (by omega)
    rw [aoR_s, aoR_s, e1, e2, aoR_congr i n (k + 1) (fun j h1 h2 => h j (by omega) (by omega))]
theorem CI_congr {G G' : Nat → Nat} {i : Nat} {iv iv' : mI} (h : CI B G i iv) (hg : ∀ k, k < 6 → G' (37 + 6 * i + k) = G (37 + 6 * i + k)) (hb : (G' 35).testBit i = (G 35).testBit i) (ha : aoR G' i (G' 36) 0 = aoR G i (G 36) 0) (h0 : ∀ k, k < 8 → iv' (B + 12 + 3 * i) k = iv (B + 12 + 3 * i) k) (h1 : ∀ k, k < 9 → iv' (B + 12 + 3 * i + 1) k = iv (B + 12 + 3 * i + 1) k) (h2 : ∀ k, k < 9 → iv' (B + 12 + 3 * i + 2) k = iv (B + 12 + 3 * i + 2) k) : CI B G' i iv' := by
  unfold CI at h ⊢
  have e0 : G' (37 + 6 * i) = G (37 + 6 * i) := hg 0 (by decide)
  rw [e0, hg 1 (by decide), hg 2 (by decide), hg 3 (by decide), hg 4 (by decide), hg 5 (by decide), hb, ha]
  obtain ⟨⟨f0, f1, f2, f3, f4, f5, f6, f7⟩, fr, ft⟩ := h
  exact ⟨⟨(h0 0 (by decide)).trans f0, (h0 1 (by decide)).trans f1, (h0 2 (by decide)).trans f2, (h0 3 (by decide)).trans f3, (h0 4 (by decide)).trans f4, (h0 5 (by decide)).trans f5, (h0 6 (by decide)).trans f6, (h0 7 (by decide)).trans f7⟩, fun l hl => (h1 l hl).trans (fr l hl), fun l hl => (h2 l hl).trans (ft l hl)⟩
/-- what a COURSE's call leaves untouched -/
def FB (B : Nat) (iv : mI) (jv : mJ) (iv' : mI) (jv' : mJ) : Prop := (∀ q k, (q < B ∨ B + 36 ≤ q) → iv' q k = iv q k) ∧ (∀ q k, (q < B ∨ B + 36 ≤ q) → jv' q k = jv q k)
theorem FB_r (B : Nat) (iv : mI) (jv : mJ) : FB B iv jv iv jv := ⟨fun _ _ _ => rfl, fun _ _ _ => rfl⟩
theorem FB_t {iv jv iv1 jv1 iv2 jv2} (h : FB B iv jv iv1 jv1) (h' : FB B iv1 jv1 iv2 jv2) : FB B iv jv iv2 jv2 := ⟨fun q k e => (h'.1 q k e).trans (h.1 q k e), fun q k e => (h'.2 q k e).trans (h.2 q k e)⟩
theorem FB_11 {iv : mI} {jv jv' : mJ} (h : ∀ q k, q ≠ B + 11 → jv' q k = jv q k) : FB B iv jv iv jv' := ⟨fun _ _ _ => rfl, fun q k e => h q k (by omega)⟩
theorem FJ_FB {iv : mI} {jv jv' : mJ} (h : FJ (B + 7) jv jv') : FB B iv jv iv jv' := ⟨fun _ _ _ => rfl, fun q k e => h q k (by omega) (by omega)⟩
/-! an ITEM is asked -/
theorem asG_r4 {i r : Nat} (hi : i < 8) (j : Nat) (hj : j < 8) (l : Nat) : rgt (asG G i r) j l = rgt G j l :=
  rgt_congr (fun k hk => asG_ne (by omega) (by omega) (by omega) (by omega)) l
theorem wt_as {i r : Nat} (hB : IB G) (hi : i < 8) : ∀ k, k ≤ G 36 → ∀ l, l < 9 → wt (asG G i r) k l = wt G k l := by
  intro k hk
  have e : ∀ j, j < 42 → j ≠ 36 → asG G i r j = G j := fun j h1 h2 => asG_ne h2 (by omega) (by omega) (by omega)
  refine wt_congr (fun l hl => ?_) k (fun j hj => ⟨?_, ?_, fun l => ?_⟩)
  · rw [wt_0, wt_0, e 34 (by decide) (by decide), e (9 + l) (by omega) (by omega), e l (by omega) (by omega)]
  · exact asG_ne (by omega) (by omega) (by omega) (by omega)
  · exact asG_ne (by omega) (by omega) (by omega) (by omega)
  · exact asG_r4 hi _ ((hB.2.2.2.2.1 j (by have := hB.2.1; omega)).1) l
theorem wt_as1 {i r : Nat} (hB : IB G) (hi : i < 8) : ∀ l, l < 9 → wt (asG G i r) (G 36 + 1) l = dv (ml G i r (WN G)) l := by
  intro l hl
  rw [wt_s, asG_i, asG_r]
  refine dv_congr (fun l hl => ?_) hl
  unfold ml
  rw [wt_as hB hi _ (Nat.le_refl _) l hl, cf_congr _ _ (asG_r4 hi i hi l)]
  rfl
theorem aoR_as {i r j : Nat} (hi : i < 8) (hj : i ≠ j) : ∀ n k, k + n = G 36 → aoR (asG G i r) j (n + 1) k = aoR G j n k
  | 0, k, hk => by
    obtain rfl : k = G 36 := by omega
    rw [aoR_s, asG_i, if_neg hj]; rfl
  | n + 1, k, hk => by
    rw [aoR_s, aoR_s G j n k, aoR_as hi hj n (k + 1) (by omega), asG_ne (by omega) (by omega) (by omega) (by omega), asG_ne (by omega) (by omega) (by omega) (by omega)]
theorem CR_ask {i r : Nat} {iv' : mI} {jv' : mJ} (hb : isB B) (hC : CR B G iv jv) (hB : IB G) (hD : DS G) (hi : i < G 29) (h36 : G 36 < 8) (hfr : (askB G (G 36)).testBit i = false)
    (u : ∀ q k, ¬ (q = B + 12 + 3 * i ∧ (k = 5 ∨ k = 7)) → ¬ (q = B ∧ k = 14) → ¬ (q = B + 9 ∧ k = G 36) → ¬ (q = B + 10 ∧ k = G 36 + 1) → iv' q k = iv q k)
    (u1 : iv' (B + 12 + 3 * i) 5 = nI (G (37 + 6 * i + 5) + 1)) (u2 : iv' (B + 12 + 3 * i) 7 = nI r) (u3 : iv' B 14 = nI (G 36 + 1)) (u4 : iv' (B + 9) (G 36) = nI i) (u5 : iv' (B + 10) (G 36 + 1) = nI (mdF (dv (ml G i r (WN G))) 8)) (hW : WR (B + 7) (dv (ml G i r (WN G))) jv') : CR B (asG G i r) iv' jv' := by
  obtain ⟨⟨c4, c5, c6, c7, c9, c11, c14⟩, cp, ca, cb, cw, ck, cm, ci, ch⟩ := hC
  have b1 := hB.1
  have hi8 : i < 8 := by omega
  have e : ∀ j, j < 42 → j ≠ 36 → asG G i r j = G j := fun j h1 h2 => asG_ne h2 (by omega) (by omega) (by omega)
  refine ⟨⟨?_, ?_, ?_, ?_, ?_, ?_, ?_⟩, fun l hl => ?_, fun a ha => ⟨?_, ?_, ?_⟩, fun r' hr' => ?_, ?_, fun k hk => ?_, fun hon k hk => ?_, fun j hj => ?_, fun j hj => ?_⟩
  · rw [u _ _ (by omega) (by omega) (by omega) (by omega), e 32 (by decide) (by decide)]; exact c4
  · rw [u _ _ (by omega) (by omega) (by omega) (by omega), e 30 (by decide) (by decide)]; exact c5
  · rw [u _ _ (by omega) (by omega) (by omega) (by omega), e 31 (by decide) (by decide)]; exact c6
  · rw [u _ _ (by omega) (by omega) (by omega) (by omega), e 33 (by decide) (by decide)]; exact c7
  · rw [u _ _ (by omega) (by omega) (by omega) (by omega), e 29 (by decide) (by decide)]; exact c9
  · rw [u _ _ (by omega) (by omega) (by omega) (by omega), e 34 (by decide) (by decide)]; exact c11
  · rw [asG_36]; exact u3
  · rw [u _ _ (by omega) (by omega) (by omega) (by omega), e l (by omega) (by omega)]; exact cp l hl
  · rw [u _ _ (by omega) (by omega) (by omega) (by omega), e _ (by omega) (by omega)]; exact (ca a ha).1
  · rw [u _ _ (by omega) (by omega) (by omega) (by omega), e _ (by omega) (by omega)]; exact (ca a ha).2.1
  · rw [u _ _ (by omega) (by omega) (by omega) (by omega), e 29 (by decide) (by decide), arS_congr a (G 29) (fun j hj => asG_ne (by omega) (by omega) (by omega) (by omega))]; exact (ca a ha).2.2
  · rw [u _ _ (by omega) (by omega) (by omega) (by omega), e _ (by omega) (by omega)]; exact cb r' hr'
  · refine WR_congr (fun l hl => ?_) hW
    show _ = wt (asG G i r) (asG G i r 36) l
    rw [asG_36, wt_as1 hB hi8 l hl]
  · rw [asG_36] at hk
    by_cases ek : k = G 36
    · subst ek; rw [asG_i]; exact u4
    · rw [u _ _ (by omega) (by omega) (by omega) (by omega), asG_ne (by omega) (by omega) (by omega) (by omega)]; exact ck k (by omega)
  · rw [e 34 (by decide) (by decide)] at hon
    rw [asG_36] at hk
    by_cases ek : k = G 36 + 1
    · subst ek
      rw [u5, mdF_congr 8 (fun l hl => (wt_as1 (r := r) hB hi8 l (by omega)).symm)]
    · rw [u _ _ (by omega) (by omega) (by omega) (by omega), mdF_congr 8 (fun l hl => wt_as hB hi8 k (by omega) l (by omega))]
      exact cm hon k (by omega)
  · rw [e 29 (by decide) (by decide)] at hj
    have cj := ci j hj
    by_cases ej : j = i
    · subst ej
      obtain ⟨⟨f0, f1, f2, f3, f4, f5, f6, f7⟩, fr, ft⟩ := cj
      have a0 := rep_at (DS_as (r := r) hD hj h36 hi8 hfr) (k := G 36) (by rw [asG_36]; omega)
      rw [asG_i, asG_r] at a0
      unfold CI
      rw [asG_ne (by omega) (by omega) (by omega) (by omega), asG_ne (by omega) (by omega) (by omega) (by omega), asG_ne (by omega) (by omega) (by omega) (by omega), asG_ne (by omega) (by omega) (by omega) (by omega), asG_ne (by omega) (by omega) (by omega) (by omega), show 37 + 6 * j + 5 = 42 + 6 * j from by omega, asG_g hi8, e 35 (by decide) (by decide), a0]
      refine ⟨⟨?_, ?_, ?_, ?_, ?_, ?_, ?_, u2⟩, fun l hl => ?_, fun l hl => ?_⟩
      · rw [u _ _ (by omega) (by omega) (by omega) (by omega)]; exact f0
      · rw [u _ _ (by omega) (by omega) (by omega) (by omega)]; exact f1
      · rw [u _ _ (by omega) (by omega) (by omega) (by omega)]; exact f2
      · rw [u _ _ (by omega) (by omega) (by omega) (by omega)]; exact f3
      · rw [u _ _ (by omega) (by omega) (by omega) (by omega)]; exact f4
      · rw [show 42 + 6 * j = 37 + 6 * j + 5 from by omega]; exact u1
      · rw [u _ _ (by omega) (by omega) (by omega) (by omega)]; exact f6
      · rw [u _ _ (by omega) (by omega) (by omega) (by omega)]; exact fr l hl
      · rw [u _ _ (by omega) (by omega) (by omega) (by omega)]; exact ft l hl
    · refine CI_congr cj (fun k hk => asG_ne (by omega) (by omega) (by omega) (by omega)) (by rw [e 35 (by decide) (by decide)]) ?_ (fun k hk => u _ _ (by omega) (by omega) (by omega) (by omega)) (fun k hk => u _ _ (by omega) (by omega) (by omega) (by omega)) (fun k hk => u _ _ (by omega) (by omega) (by omega) (by omega))
      rw [asG_36]
      exact aoR_as hi8 (Ne.symm ej) (G 36) 0 (by omega)
  · rw [u _ _ (by omega) (by omega) (by omega) (by omega)]; exact ch j hj
theorem sp_o_ask {i r : Nat} (hb : isB B) (hC : CR B G iv jv) (hB : IB G) (hD : DS G) (hn : nz (wt G 0)) (hi : i < G 29) (hr : r < 2) (h36 : G 36 < 8) (hfr : (askB G (G 36)).testBit i = false) (hQ : ∀ iv' jv', FB B iv jv iv' jv' → CR B (asG G i r) iv' jv' → Q none (mk iv' jv')) : XM (d + 5) Yo_ask [.ref B, .int (nI i), .int (nI r)] iv jv Q := by
  obtain ⟨⟨c4, c5, c6, c7, c9, c11, c14⟩, cp, ca, cb, ⟨wr, ws⟩, ck, cm, ci, ch⟩ := id hC
  obtain ⟨s0, s1, s2, s3, s4, s5, s6, s7, s8, s9, s10, s11⟩ := sB hb
  have b1 := hB.1
  have e18 : ((18 : Nat) = 18 ∨ (18 : Nat) = 19) = True := by simp
  have hi8 : i < 8 := by omega
  have hlt := lt_B hb
  obtain ⟨t0, t1, t2⟩ := sI hb hi8
  obtain ⟨⟨f0, f1, f2, f3, f4, f5, f6, f7⟩, fr, ft⟩ := ci i hi
  simp (disch := first | assumption | omega) only [e_o_ask, x_o_ask_0, x_o_ask_1, x_o_ask_4, x_o_ask_6, x_o_ask_9, x_o_ask_10, x_o_ask_11, x_o_ask_14, x_o_ask_15, x_o_ask_16, x_o_ask_17, x_o_ask_20, x_o_ask_21, x_o_ask_22, x_o_ask_25, x_o_ask_26, x_o_ask_29, x_o_ask_30, x_o_ask_31, x_o_ask_32, x_o_ask_35, x_o_ask_36, x_o_ask_39, x_o_ask_40, x_o_ask_43, x_o_ask_44, x_o_ask_45, x_o_ask_46, x_o_ask_49, x_o_ask_50, x_o_ask_51, x_o_ask_54, x_o_ask_55, x_o_ask_56, x_o_ask_59, x_o_ask_60, x_o_ask_61, x_o_ask_62, x_o_ask_65, x_o_ask_66, x_o_ask_67, x_o_ask_68, x_o_ask_71, x_o_ask_72, x_o_ask_75, x_o_ask_76, x_o_ask_79, x_o_ask_82, x_o_ask_83, s0, s5, s7, e18, true_and, true_or, c14, q_lt, h36, if_true, q_in, q_tn, rI hb, t0, f5, q_add]
  refine sp_w_go (f := WN G) (R := rgt G i) (c := cf G i r) s7 s8 t0 t1 (by omega) hr (WN_lt hB) (ml_nz (wt_nz hn _)) (fun l hl => ?_) (fun l _ => rgt_in G i l) (fun l _ => rfl) wr (fun _ jv' hF hW => ?_) (fun hf jv' _ => ?_)
  · rw [upi_ne (by omega), upi_ne (by omega)]; exact fr l hl
  · have hh := fun (iv : mI) (Q : Option Value → mH → Prop) => sp_w_heaviest (d := d + 3) (iv := iv) (jv := jv') (Q := Q) (f := dv (ml G i r (WN G))) s7 s8 (fun l hl => Nat.lt_of_le_of_lt (dv_le _ _) (Nat.lt_of_le_of_lt (wt_ml_le hB.2.2.2.2.2.1 h36 hl) (by decide))) hW.1
    simp (disch := first | assumption | omega) only [XK_s, XK_n, x_o_ask_0, x_o_ask_1, x_o_ask_4, x_o_ask_6, x_o_ask_9, x_o_ask_10, x_o_ask_11, x_o_ask_14, x_o_ask_15, x_o_ask_16, x_o_ask_17, x_o_ask_20, x_o_ask_21, x_o_ask_22, x_o_ask_25, x_o_ask_26, x_o_ask_29, x_o_ask_30, x_o_ask_31, x_o_ask_32, x_o_ask_35, x_o_ask_36, x_o_ask_39, x_o_ask_40, x_o_ask_43, x_o_ask_44, x_o_ask_45, x_o_ask_46, x_o_ask_49, x_o_ask_50, x_o_ask_51, x_o_ask_54, x_o_ask_55, x_o_ask_56, x_o_ask_59, x_o_ask_60, x_o_ask_61, x_o_ask_62, x_o_ask_65, x_o_ask_66, x_o_ask_67, x_o_ask_68, x_o_ask_71, x_o_ask_72, x_o_ask_75, x_o_ask_76, x_o_ask_79, x_o_ask_82, x_o_ask_83, s0, s7, s9, s10, true_and, upi_ne, upi_at, c14, q_add, q_in, q_tn, hh]
    refine hQ _ _ ⟨fun q k hq => ?_, (FJ_FB (iv := iv) hF).2⟩ (CR_ask hb hC hB hD hi h36 hfr (fun q k h1 h2 h3 h4 => ?_) ?_ ?_ ?_ ?_ ?_ hW)
    · rw [upi_ne (by omega), upi_ne (by omega), upi_ne (by omega), upi_ne (by omega), upi_ne (by omega)]
    · rw [upi_ne (by omega), upi_ne (by omega), upi_ne (by omega), upi_ne (by omega), upi_ne (by omega)]
    · rw [upi_ne (by omega), upi_ne (by omega), upi_ne (by omega), upi_ne (by omega), upi_at]
    · rw [upi_ne (by omega), upi_ne (by omega), upi_ne (by omega), upi_at]
    · rw [upi_ne (by omega), upi_ne (by omega), upi_at]
    · rw [upi_ne (by omega), upi_at]
    · exact upi_at _ _ _ _
  · exfalso
    have : ao (cf G i r) (WN G) 9 = false := ao_ok (fun l hl => wt_ml_le hB.2.2.2.2.2.1 h36 hl)
    rw [this] at hf
    exact absurd hf (by decide)
end COURSE3
