section INVS
variable {d t : Nat} {iv iv1 iv2 : mI} {jv jv1 jv2 : mJ} {G G' : Nat → Nat} {B : Nat}
def ST (t : Nat) (G : Nat → Nat) : Prop := IB G ∧ DS G ∧ nz G ∧ nz (wt G 0) ∧ (G 34 ≠ 1 → G 36 = 0 ∧ G 35 = 0) ∧ (∀ i, i < 8 → G (42 + 6 * i) ≤ t) ∧ G 33 ≤ t
def RGG (G : Nat → Nat) (jv : mJ) : Prop := ∀ k, k < 101 → jv 119 k = lN (G k)
def SH (iv : mI) : Prop := ∀ s, s < 4 → iv (110 + 2 * s) 0 = iv 123 s ∧ (iv 123 s = -1 ∨ iv 123 s = nI 0 ∨ iv 123 s = nI 1) ∧ ∃ n, n ≤ 40 ∧ iv (110 + 2 * s) 1 = nI n ∧ iv 124 s = nI n ∧ ∀ i, i < n → iv (110 + 2 * s + 1) i = iv 125 (40 * s + i)
def IM (t : Nat) (iv : mI) (jv : mJ) : Prop := (iv 0 3 = nI 0 ∧ iv 118 3 = nI 0) ∨ (iv 0 3 = nI 1 ∧ iv 118 3 = nI 1 ∧ ∃ K, ST t K ∧ CR 37 K iv jv ∧ ∀ k, k < 101 → jv 120 k = lN (K k))
def INV (t : Nat) (iv : mI) (jv : mJ) : Prop := ∃ G, ST t G ∧ CR 1 G iv jv ∧ RGG G jv ∧ IM t iv jv ∧ SH iv
def Q2 (t : Nat) (x : Value) : Option Value → mH → Prop := fun v hp => ∃ iv2 jv2, v = some x ∧ hp = mk iv2 jv2 ∧ INV (t + 1) iv2 jv2
theorem Q2_i {x : Value} (h : INV (t + 1) iv jv) : Q2 t x (some x) (mk iv jv) := ⟨_, _, rfl, rfl, h⟩
def Q1 (D t j : Nat) (as : List Value) : Option Value → mH → Prop := fun v hp => ∃ (r : Int32) (iv1 : mI) (jv1 : mJ), v = some (.int r) ∧ hp = mk iv1 jv1 ∧ XM D j as iv1 jv1 (Q2 t (.int r))
theorem Q1_i {D j : Nat} {as : List Value} {r : Int32} (h : XM D j as iv jv (Q2 t (.int r))) : Q1 D t j as (some (.int r)) (mk iv jv) := ⟨_, _, _, rfl, rfl, h⟩
def QJ (D t j : Nat) (as : List Value) : Option Value → mH → Prop := fun v hp => ∃ (r : Int64) (iv1 : mI) (jv1 : mJ), v = some (.long r) ∧ hp = mk iv1 jv1 ∧ XM D j as iv1 jv1 (Q2 t (.long r))
theorem QJ_i {D j : Nat} {as : List Value} {r : Int64} (h : XM D j as iv jv (Q2 t (.long r))) : QJ D t j as (some (.long r)) (mk iv jv) := ⟨_, _, _, rfl, rfl, h⟩
theorem ST_s (h : ST t G) : ST (t + 1) G := by
  obtain ⟨a, b, c, e, f, g, h⟩ := h
  exact ⟨a, b, c, e, f, fun i hi => Nat.le_succ_of_le (g i hi), Nat.le_succ_of_le h⟩
theorem CI_eq {i : Nat} {iv iv' : mI} (h : CI B G i iv) (hv : ∀ q k, B + 12 + 3 * i ≤ q → q ≤ B + 12 + 3 * i + 2 → iv' q k = iv q k) : CI B G i iv' :=
  CI_congr h (fun _ _ => rfl) rfl rfl (fun k _ => hv _ k (by omega) (by omega)) (fun k _ => hv _ k (by omega) (by omega)) (fun k _ => hv _ k (by omega) (by omega))
theorem CR_eq {iv' : mI} {jv' : mJ} (hC : CR B G iv jv) (hB : IB G) (hi : ∀ q k, B ≤ q → q < B + 36 → iv' q k = iv q k) (hj : ∀ q k, B ≤ q → q < B + 36 → jv' q k = jv q k) : CR B G iv' jv' := by
  obtain ⟨⟨c4, c5, c6, c7, c9, c11, c14⟩, cp, ca, cb, cw, ck, cm, ci, ch⟩ := hC
  have b1 := hB.1
  have e : ∀ q k, B ≤ q → q < B + 36 → iv' q k = iv q k := hi
  refine ⟨⟨?_, ?_, ?_, ?_, ?_, ?_, ?_⟩, fun l hl => ?_, fun a ha => ⟨?_, ?_, ?_⟩, fun r hr => ?_, WR_ne cw (fun k => hj _ k (by omega) (by omega)) (fun k => hj _ k (by omega) (by omega)), fun k hk => ?_, fun hon k hk => ?_, fun j hj => CI_eq (ci j hj) (fun q k h1 h2 => hi q k (by omega) (by omega)), fun j hj => ?_⟩
  all_goals rw [e _ _ (by omega) (by omega)]
  · exact c4
  · exact c5
  · exact c6
  · exact c7
  · exact c9
  · exact c11
  · exact c14
  · exact cp l hl
  · exact (ca a ha).1
  · exact (ca a ha).2.1
  · exact (ca a ha).2.2
  · exact cb r hr
  · exact ck k hk
  · exact cm hon k hk
  · exact ch j hj
/-- what a call of the class may touch -/
def FX (iv : mI) (jv : mJ) (iv' : mI) (jv' : mJ) : Prop := (∀ q k, (q = 0 ∨ (37 ≤ q ∧ q < 73) ∨ 109 ≤ q) → iv' q k = iv q k) ∧ (∀ q k, (q = 0 ∨ (37 ≤ q ∧ q < 73) ∨ 109 ≤ q) → jv' q k = jv q k)
theorem FX_1 (h : FB 1 iv jv iv1 jv1) : FX iv jv iv1 jv1 := ⟨fun q k e => h.1 q k (by omega), fun q k e => h.2 q k (by omega)⟩
theorem FX_73 (h : FB 73 iv jv iv1 jv1) : FX iv jv iv1 jv1 := ⟨fun q k e => h.1 q k (by omega), fun q k e => h.2 q k (by omega)⟩
theorem FX_r (iv : mI) (jv : mJ) : FX iv jv iv jv := ⟨fun _ _ _ => rfl, fun _ _ _ => rfl⟩
theorem FX_t (h : FX iv jv iv1 jv1) (h' : FX iv1 jv1 iv2 jv2) : FX iv jv iv2 jv2 := ⟨fun q k e => (h'.1 q k e).trans (h.1 q k e), fun q k e => (h'.2 q k e).trans (h.2 q k e)⟩
theorem FX_G (h : FX iv jv iv1 jv1) (hG : RGG G jv) : RGG G jv1 := fun k hk => (h.2 119 k (by omega)).trans (hG k hk)
theorem CR73 (h : FB 73 iv jv iv1 jv1) (hC : CR 1 G iv jv) (hB : IB G) : CR 1 G iv1 jv1 := CR_eq hC hB (fun q k e1 e2 => h.1 q k (by omega)) (fun q k e1 e2 => h.2 q k (by omega))
theorem FW_9 {iv : mI} {jv jv1 : mJ} (h : ∀ q k, q ≠ 119 → jv1 q k = jv q k) : FW iv jv iv jv1 := FW_j (fun q k e _ => h q k e)
theorem IM_eq {t t' : Nat} {iv' : mI} {jv' : mJ} (h : IM t iv jv) (ht : t ≤ t') (h0 : iv' 0 3 = iv 0 3) (h1 : iv' 118 3 = iv 118 3) (hi : ∀ q k, 37 ≤ q → q < 73 → iv' q k = iv q k) (hj : ∀ q k, (37 ≤ q ∧ q < 73) ∨ q = 120 → jv' q k = jv q k) : IM t' iv' jv' := by
  rcases h with ⟨a, b⟩ | ⟨a, b, K, hK, hC, hG⟩
  · exact Or.inl ⟨h0.trans a, h1.trans b⟩
  · refine Or.inr ⟨h0.trans a, h1.trans b, K, ?_, CR_eq hC hK.1 (fun q k e1 e2 => hi q k e1 e2) (fun q k e1 e2 => hj q k (Or.inl ⟨e1, e2⟩)), fun k hk => (hj 120 k (Or.inr rfl)).trans (hG k hk)⟩
    obtain ⟨a, b, c, e, f, g, h⟩ := hK
    exact ⟨a, b, c, e, f, fun i hi => Nat.le_trans (g i hi) ht, Nat.le_trans h ht⟩
theorem SH_eq {iv' : mI} (h : SH iv) (hi : ∀ q k, 109 ≤ q → q ≠ 118 → iv' q k = iv q k) : SH iv' := by
  intro s hs
  obtain ⟨a, b, n, c, e, f, g⟩ := h s hs
  refine ⟨?_, ?_, n, c, ?_, ?_, fun i hi' => ?_⟩
  · rw [hi _ _ (by omega) (by omega), hi _ _ (by omega) (by omega)]; exact a
  · rw [hi _ _ (by omega) (by omega)]; exact b
  · rw [hi _ _ (by omega) (by omega)]; exact e
  · rw [hi _ _ (by omega) (by omega)]; exact f
  · rw [hi _ _ (by omega) (by omega), hi _ _ (by omega) (by omega)]; exact g i hi'
/-- a call that leaves IMAGE and SHEETS as they are -/
theorem INV_mk (hM : IM t iv jv) (hS : SH iv) (hF : FX iv jv iv1 jv1) (hC : CR 1 G' iv1 jv1) (hW : FW iv1 jv1 iv2 jv2) (hG : RGG G' jv2) (hT : ST (t + 1) G') : INV (t + 1) iv2 jv2 := by
  refine ⟨G', hT, CR_eq hC hT.1 (fun q k e1 e2 => hW.1 q k (by omega)) (fun q k e1 e2 => hW.2 q k (by omega) (by omega) (by omega) (by omega)), hG, IM_eq hM (Nat.le_succ t) ?_ ?_ (fun q k e1 e2 => ?_) (fun q k e => ?_), SH_eq hS (fun q k e1 e2 => ?_)⟩
  · rw [hW.1 _ _ (by omega), hF.1 _ _ (by omega)]
  · rw [hW.1 _ _ (by omega), hF.1 _ _ (by omega)]
  · rw [hW.1 _ _ (by omega), hF.1 _ _ (by omega)]
  · rw [hW.2 _ _ (by omega) (by omega) (by omega) (by omega), hF.2 _ _ (by omega)]
  · rw [hW.1 _ _ (by omega), hF.1 _ _ (by omega)]
theorem INV_r (hT : ST t G) (hC : CR 1 G iv jv) (hG : RGG G jv) (hM : IM t iv jv) (hS : SH iv) : INV (t + 1) iv jv := INV_mk hM hS (FX_r iv jv) hC (FW_r iv jv) hG (ST_s hT)
theorem FW_G (h : FW iv jv iv1 jv1) (hG : RGG G jv1) : RGG G jv1 := hG
theorem FR_GG (h : FR iv jv iv1 jv1) (hG : RGG G jv) : RGG G jv1 := FR_G h hG
theorem cr1 (hC : CR 1 G iv jv) : CF 1 G iv ∧ (∀ l, l < 9 → iv 2 l = nI (G l)) ∧ (∀ a, a < 3 → iv 3 a = nI (G (18 + a)) ∧ iv 4 a = nI (G (21 + a)) ∧ iv 7 a = nI (arS G a (G 29))) ∧ (∀ r, r < 5 → iv 5 r = nI (G (24 + r))) ∧ ((∀ l, l < 9 → jv 9 l = lN (WN G l)) ∧ WS 8 (WN G) 9 jv) ∧ (∀ k, k < G 36 → iv 10 k = nI (G (85 + 2 * k))) ∧ (∀ i, i < G 29 → IT (13 + 3 * i) (G (37 + 6 * i)) (G (37 + 6 * i + 1)) (G (37 + 6 * i + 2)) (G (37 + 6 * i + 3)) (G (37 + 6 * i + 4)) (G (37 + 6 * i + 5)) (b01 ((G 35).testBit i = true)) (aoR G i (G 36) 0) iv) := by
  obtain ⟨cf, cp, ca, cb, cw, ck, cm, ci, ch⟩ := hC
  exact ⟨cf, cp, ca, cb, cw, ck, ci⟩
theorem sI1 {i : Nat} (hi : i < 8) : shp (13 + 3 * i) = (2, 10) ∧ shp (13 + 3 * i + 1) = (16, 9) ∧ shp (13 + 3 * i + 2) = (16, 9) := sI (B := 1) (Or.inl rfl) hi
theorem isB1 : isB 1 := Or.inl rfl
theorem isB37 : isB 37 := Or.inr (Or.inl rfl)
theorem isB73 : isB 73 := Or.inr (Or.inr rfl)
theorem shH {s : Nat} (hs : s < 4) : shp (110 + 2 * s) = (3, 3) ∧ shp (110 + 2 * s + 1) = (16, 40) := by
  revert hs; revert s; decide
end INVS
