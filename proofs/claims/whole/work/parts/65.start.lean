section START
variable {d : Nat} {iv : mI} {jv : mJ} {Q : Option Value → mH → Prop} {G : Nat → Nat} {B v : Nat}
theorem hldB_congr {G G' : Nat → Nat} {t i : Nat} {z : Int32} (h4 : G' (37 + 6 * i + 4) = G (37 + 6 * i + 4)) (h5 : G' (37 + 6 * i + 5) = G (37 + 6 * i + 5)) (h31 : G' 31 = G 31) : hldB G' t z i = hldB G t z i := by
  unfold hldB; rw [h4, h5, h31]
theorem hs_congr {G G' : Nat → Nat} {t : Nat} {z : Int32} : ∀ n, (∀ i, i < n → hldB G' t z i = hldB G t z i) → hs G' t z n = hs G t z n
  | 0, _ => rfl
  | n + 1, h => by rw [hs_s, hs_s, hs_congr n (fun i hi => h i (by omega)), h n (by omega)]
theorem hs_bit (G : Nat → Nat) (t : Nat) (z : Int32) (i : Nat) : ∀ n, (hs G t z n).testBit i = (decide (i < n) && hldB G t z i)
  | 0 => by show (0 : Nat).testBit i = _; simp
  | n + 1 => by
    have ih := hs_bit G t z i n
    rw [hs_s]
    by_cases e : i = n
    · subst e
      cases h : hldB G t z i
      · rw [if_neg (by decide), ih]; simp
      · rw [if_pos rfl, Nat.testBit_or, ih, Nat.testBit_two_pow]; simp
    · have e' : ¬ n = i := fun z => e z.symm
      have e2 : decide (i < n + 1) = decide (i < n) := by
        apply decide_eq_decide.mpr; omega
      cases h : hldB G t z n
      · rw [if_neg (by decide), ih, e2]
      · rw [if_pos rfl, Nat.testBit_or, ih, Nat.testBit_two_pow, e2]; simp [e']
theorem hs_cnt (G : Nat → Nat) (t : Nat) (z : Int32) {n : Nat} (hn : n < 8) : cntB (hs G t z (n + 1)) 8 = cntB (hs G t z n) 8 + if hldB G t z n = true then 1 else 0 := by
  have h1 := hs_lt G t z n (by omega)
  have h2 := pow_le (k := n) (by omega)
  rw [hs_s]
  split
  · exact cntB_or _ (by omega) n hn (by rw [hs_bit]; simp)
  · rfl
theorem i32_le (x y : Int32) : (x ≤ y) = ¬ (y < x) := by
  apply propext
  rw [Int32.lt_iff_toInt_lt, Int32.le_iff_toInt_le]; omega
def H6 (B q k : Nat) : Prop := k = 6 ∧ B + 12 ≤ q ∧ q < B + 36 ∧ (q - B) % 3 = 0
theorem H6_n {B q k : Nat} (h : k ≠ 6 ∨ q < B + 12 ∨ B + 36 ≤ q ∨ (q - B) % 3 ≠ 0) : ¬ H6 B q k := by unfold H6; omega
theorem lp_o_start {t : Nat} {s i1 : Int32} (hb : isB B) (hB : IB G) (ht : t ≤ 1000) (c6 : iv B 6 = nI (G 31)) (c7 : iv B 7 = nI t) (c9 : iv B 9 = nI (G 29)) (ci : ∀ i, i < G 29 → iv (B + 12 + 3 * i) 4 = nI (G (37 + 6 * i + 4)) ∧ iv (B + 12 + 3 * i) 5 = nI (G (37 + 6 * i + 5)))
    (hQ : ∀ iv' u, (∀ q k, ¬ H6 B q k → iv' q k = iv q k) → (∀ i, i < G 29 → iv' (B + 12 + 3 * i) 6 = b01 (hldB G t s i = true)) → (∀ i, i < 8 → G 29 ≤ i → iv' (B + 12 + 3 * i) 6 = iv (B + 12 + 3 * i) 6) → XT (d + 1) Yo_start 17 [.ref B, .int i1, .int (hz s (G 29)), .int (nI (cntB (hs G t s (G 29)) 8)), .int (nI (G 29)), u] [] iv' jv Q) : ∀ n i, i + n = G 29 → ∀ iv1 u, (∀ q k, ¬ H6 B q k → iv1 q k = iv q k) → (∀ j, j < i → iv1 (B + 12 + 3 * j) 6 = b01 (hldB G t s j = true)) → (∀ j, j < 8 → i ≤ j → iv1 (B + 12 + 3 * j) 6 = iv (B + 12 + 3 * j) 6) → XT (d + 1) Yo_start 17 [.ref B, .int i1, .int (hz s i), .int (nI (cntB (hs G t s i) 8)), .int (nI i), u] [] iv1 jv Q := by
  obtain ⟨s0, s1, s2, s3, s4, s5, s6, s7, s8, s9, s10, s11⟩ := sB hb
  have e18 : ((18 : Nat) = 18 ∨ (18 : Nat) = 19) = True := by simp
  have hlb := lt_B hb
  have b1 := hB.1
  intro n
  induction n with
  | zero =>
    intro i hi iv1 u h1 h2 h3
    obtain rfl : i = G 29 := by omega
    exact hQ iv1 u h1 h2 h3
  | succ n ih =>
    intro i hi iv1 u h1 h2 h3
    have h4 : ¬ G 29 ≤ i := by omega
    have hi8 : i < 8 := by omega
    obtain ⟨t0, t1, t2⟩ := sI hb hi8
    have b4 := hB.2.2.2.1 i hi8
    have b10 : G 31 ≤ 9 := hB.2.2.2.2.2.2.2.2.2.1
    have m1 : G (37 + 6 * i + 4) * t ≤ 10 * 1000 := Nat.mul_le_mul b4.2.2.2.2.1 ht
    have v6 := (h1 B 6 (H6_n (by omega))).trans c6
    have v7 := (h1 B 7 (H6_n (by omega))).trans c7
    have v9 := (h1 B 9 (H6_n (by omega))).trans c9
    have w4 := (h1 (B + 12 + 3 * i) 4 (H6_n (by omega))).trans (ci i (by omega)).1
    have w5 := (h1 (B + 12 + 3 * i) 5 (H6_n (by omega))).trans (ci i (by omega)).2
    have h10 : ¬ (nI 10 = 0) := by decide
    have hcn := hs_cnt G t s hi8
    have hcl := cntB_le (hs G t s i) 8
    have hd : hldB G t s i = (decide (G (37 + 6 * i + 4) * t < 10 * (G (37 + 6 * i + 5) + 1)) || decide (lot (stz (hz s i)) 10 < nI (G 31))) := rfl
    have key : ∀ c : Bool, hldB G t s i = c → ∀ u, XT (d + 1) Yo_start 17 [.ref B, .int i1, .int (stz (hz s i)), .int (nI (cntB (hs G t s i) 8 + if c = true then 1 else 0)), .int (nI (i + 1)), u] [] (upi iv1 (B + 12 + 3 * i) 6 (b01 (c = true))) jv Q := by
      intro c hc u
      rw [hc] at hcn
      rw [← hcn]
      refine ih (i + 1) (by omega) _ u (fun q k hq => ?_) (fun j hj => ?_) (fun j hj hij => ?_)
      · rw [upi_ne (fun e => hq ?_)]
        · exact h1 q k hq
        · obtain ⟨rfl, rfl⟩ := e
          unfold H6; omega
      · by_cases ej : j = i
        · subst ej; rw [upi_at, hc]
        · rw [upi_ne (by omega)]; exact h2 j (by omega)
      · rw [upi_ne (by omega)]; exact h3 j hj (by omega)
    rw [x_o_start_17]
    by_cases p1 : G (37 + 6 * i + 4) * t < 10 * (G (37 + 6 * i + 5) + 1)
    · have hc : hldB G t s i = true := by rw [hd]; simp [p1]
      have := key true hc
      rw [if_pos rfl, b01_t rfl] at this
      simp (disch := first | assumption | omega) only [x_o_start_0, x_o_start_1, x_o_start_2, x_o_start_5, x_o_start_6, x_o_start_7, x_o_start_10, x_o_start_11, x_o_start_12, x_o_start_13, x_o_start_14, x_o_start_15, x_o_start_19, x_o_start_20, x_o_start_23, x_o_start_26, x_o_start_27, x_o_start_30, x_o_start_31, x_o_start_32, x_o_start_35, x_o_start_37, x_o_start_38, x_o_start_40, x_o_start_42, x_o_start_44, x_o_start_46, x_o_start_49, x_o_start_50, x_o_start_51, x_o_start_52, x_o_start_54, x_o_start_57, x_o_start_58, x_o_start_61, x_o_start_62, x_o_start_65, x_o_start_66, x_o_start_68, x_o_start_69, x_o_start_71, x_o_start_72, x_o_start_73, x_o_start_76, x_o_start_79, x_o_start_80, x_o_start_83, x_o_start_84, x_o_start_87, x_o_start_89, x_o_start_92, x_o_start_95, x_o_start_98, x_o_start_101, x_o_start_104, x_o_start_105, x_o_start_106, x_o_start_109, x_o_start_110, x_o_start_113, x_o_start_114, x_o_start_117, x_o_start_120, x_o_start_121, x_o_start_124, x_o_start_127, x_o_start_128, x_o_start_131, x_o_start_132, x_o_start_133, x_o_start_136, x_o_start_139, x_o_start_140, x_o_start_141, s0, s5, e18, true_and, true_or, or_true, v9, q_le, h4, if_false, sp_t_stir, XK_s, q_in, q_tn, rI hb, t0, w5, w4, q_add, q_mul, v7, q_lt, p1, if_true, z11, upi_at, n10]
      exact this _
    · by_cases p2 : lot (stz (hz s i)) 10 < nI (G 31)
      · have hc : hldB G t s i = true := by rw [hd]; simp [p2]
        have := key true hc
        rw [if_pos rfl, b01_t rfl] at this
        have p2' : ¬ nI (G 31) ≤ lot (stz (hz s i)) 10 := by rw [i32_le]; exact fun e => e p2
        unfold lot ush9 at p2'
        simp (disch := first | assumption | omega) only [x_o_start_0, x_o_start_1, x_o_start_2, x_o_start_5, x_o_start_6, x_o_start_7, x_o_start_10, x_o_start_11, x_o_start_12, x_o_start_13, x_o_start_14, x_o_start_15, x_o_start_19, x_o_start_20, x_o_start_23, x_o_start_26, x_o_start_27, x_o_start_30, x_o_start_31, x_o_start_32, x_o_start_35, x_o_start_37, x_o_start_38, x_o_start_40, x_o_start_42, x_o_start_44, x_o_start_46, x_o_start_49, x_o_start_50, x_o_start_51, x_o_start_52, x_o_start_54, x_o_start_57, x_o_start_58, x_o_start_61, x_o_start_62, x_o_start_65, x_o_start_66, x_o_start_68, x_o_start_69, x_o_start_71, x_o_start_72, x_o_start_73, x_o_start_76, x_o_start_79, x_o_start_80, x_o_start_83, x_o_start_84, x_o_start_87, x_o_start_89, x_o_start_92, x_o_start_95, x_o_start_98, x_o_start_101, x_o_start_104, x_o_start_105, x_o_start_106, x_o_start_109, x_o_start_110, x_o_start_113, x_o_start_114, x_o_start_117, x_o_start_120, x_o_start_121, x_o_start_124, x_o_start_127, x_o_start_128, x_o_start_131, x_o_start_132, x_o_start_133, x_o_start_136, x_o_start_139, x_o_start_140, x_o_start_141, s0, s5, e18, true_and, true_or, or_true, v9, q_le, h4, if_false, sp_t_stir, XK_s, q_in, q_tn, rI hb, t0, w5, w4, q_add, q_mul, v7, q_lt, p1, h10, not_false_eq_true, v6, p2', if_true, z11, upi_at, n10]
        exact this _
      · have hc : hldB G t s i = false := by rw [hd]; simp [p1, p2]
        have := key false hc
        rw [if_neg (by decide), b01_f (by decide), Nat.add_zero] at this
        have p2' : nI (G 31) ≤ lot (stz (hz s i)) 10 := by rw [i32_le]; exact p2
        unfold lot ush9 at p2'
        simp (disch := first | assumption | omega) only [x_o_start_0, x_o_start_1, x_o_start_2, x_o_start_5, x_o_start_6, x_o_start_7, x_o_start_10, x_o_start_11, x_o_start_12, x_o_start_13, x_o_start_14, x_o_start_15, x_o_start_19, x_o_start_20, x_o_start_23, x_o_start_26, x_o_start_27, x_o_start_30, x_o_start_31, x_o_start_32, x_o_start_35, x_o_start_37, x_o_start_38, x_o_start_40, x_o_start_42, x_o_start_44, x_o_start_46, x_o_start_49, x_o_start_50, x_o_start_51, x_o_start_52, x_o_start_54, x_o_start_57, x_o_start_58, x_o_start_61, x_o_start_62, x_o_start_65, x_o_start_66, x_o_start_68, x_o_start_69, x_o_start_71, x_o_start_72, x_o_start_73, x_o_start_76, x_o_start_79, x_o_start_80, x_o_start_83, x_o_start_84, x_o_start_87, x_o_start_89, x_o_start_92, x_o_start_95, x_o_start_98, x_o_start_101, x_o_start_104, x_o_start_105, x_o_start_106, x_o_start_109, x_o_start_110, x_o_start_113, x_o_start_114, x_o_start_117, x_o_start_120, x_o_start_121, x_o_start_124, x_o_start_127, x_o_start_128, x_o_start_131, x_o_start_132, x_o_start_133, x_o_start_136, x_o_start_139, x_o_start_140, x_o_start_141, s0, s5, e18, true_and, true_or, or_true, v9, q_le, h4, if_false, sp_t_stir, XK_s, q_in, q_tn, rI hb, t0, w5, w4, q_add, q_mul, v7, q_lt, p1, h10, not_false_eq_true, v6, p2', if_true, z01, upi_at]
        exact this _
theorem beG_ne {z : Int32} {j : Nat} (h1 : ¬ (9 ≤ j ∧ j < 18)) (h2 : j < 33 ∨ 36 < j) : beG G z j = G j := by
  unfold beG; rw [up_ne (by omega), st_bg h1, bgG_ne h2]
theorem beG_33 (G : Nat → Nat) (z : Int32) : beG G z 33 = G 33 + 1 := by
  unfold beG; rw [up_ne (by decide), st_bg (by omega)]; unfold bgG; rw [up_ne (by decide), up_ne (by decide), up_ne (by decide), up_at]
theorem beG_34 (G : Nat → Nat) (z : Int32) : beG G z 34 = 1 := by
  unfold beG; rw [up_ne (by decide), st_bg (by omega)]; unfold bgG; rw [up_ne (by decide), up_ne (by decide), up_at]
theorem beG_36 (G : Nat → Nat) (z : Int32) : beG G z 36 = 0 := by
  unfold beG; rw [up_ne (by decide), st_bg (by omega)]; unfold bgG; rw [up_at]
theorem hs_bg (hB : IB G) (t : Nat) (z : Int32) : hs (stG (bgG G) 9) t z (G 29) = hs G t z (G 29) := by
  have b1 := hB.1
  refine hs_congr _ (fun i hi => hldB_congr ?_ ?_ ?_)
  · rw [st_bg (by omega), bgG_ne (by omega)]
  · rw [st_bg (by omega), bgG_ne (by omega)]
  · rw [st_bg (by omega), bgG_ne (by omega)]
theorem beG_35 (hB : IB G) (z : Int32) : beG G z 35 = hs G (G 33 + 1) z (G 29) := by
  unfold beG; rw [up_at, hs_bg hB]
theorem beG_w (z : Int32) {l : Nat} (hl : l < 9) : beG G z (9 + l) = dv G l := by
  unfold beG; rw [up_ne (by omega), stG_at hl, dv_bg hl]
theorem wt_be (z : Int32) : ∀ l, l < 9 → wt (beG G z) 0 l = dv G l := fun l hl => by
  rw [wt_0, beG_34, if_pos rfl, beG_w z hl]
theorem CR_be {z : Int32} {iv' : mI} {jv' : mJ} (hb : isB B) (hC : CR B G iv jv) (hB : IB G) (h36 : G 36 = 0)
    (u : ∀ q k, ¬ H6 B q k → ¬ (q = B ∧ (k = 7 ∨ k = 11)) → ¬ (q = B + 10 ∧ k = 0) → iv' q k = iv q k)
    (u7 : iv' B 7 = nI (G 33 + 1)) (u11 : iv' B 11 = nI 1) (u10 : iv' (B + 10) 0 = nI (mdF (dv G) 8)) (u6 : ∀ i, i < G 29 → iv' (B + 12 + 3 * i) 6 = b01 (hldB G (G 33 + 1) z i = true)) (u6' : ∀ i, i < 8 → G 29 ≤ i → iv' (B + 12 + 3 * i) 6 = iv (B + 12 + 3 * i) 6) (hW : WR (B + 7) (dv G) jv') : CR B (beG G z) iv' jv' := by
  obtain ⟨⟨c4, c5, c6, c7, c9, c11, c14⟩, cp, ca, cb, cw, ck, cm, ci, ch⟩ := hC
  have b1 := hB.1
  have e : ∀ j, ¬ (9 ≤ j ∧ j < 18) → (j < 33 ∨ 36 < j) → beG G z j = G j := fun j h1 h2 => beG_ne h1 h2
  refine ⟨⟨?_, ?_, ?_, ?_, ?_, ?_, ?_⟩, fun l hl => ?_, fun a ha => ⟨?_, ?_, ?_⟩, fun r' hr' => ?_, ?_, fun k hk => ?_, fun hon k hk => ?_, fun j hj => ?_, fun j hj => ?_⟩
  · rw [u _ _ (H6_n (by omega)) (by omega) (by omega), e 32 (by omega) (by omega)]; exact c4
  · rw [u _ _ (H6_n (by omega)) (by omega) (by omega), e 30 (by omega) (by omega)]; exact c5
  · rw [u _ _ (H6_n (by omega)) (by omega) (by omega), e 31 (by omega) (by omega)]; exact c6
  · rw [beG_33]; exact u7
  · rw [u _ _ (H6_n (by omega)) (by omega) (by omega), e 29 (by omega) (by omega)]; exact c9
  · rw [beG_34]; exact u11
  · rw [u _ _ (H6_n (by omega)) (by omega) (by omega), beG_36]; rw [c14, h36]
  · rw [u _ _ (H6_n (by omega)) (by omega) (by omega), e l (by omega) (by omega)]; exact cp l hl
  · rw [u _ _ (H6_n (by omega)) (by omega) (by omega), e _ (by omega) (by omega)]; exact (ca a ha).1
  · rw [u _ _ (H6_n (by omega)) (by omega) (by omega), e _ (by omega) (by omega)]; exact (ca a ha).2.1
  · rw [u _ _ (H6_n (by omega)) (by omega) (by omega), e 29 (by omega) (by omega), arS_congr a (G 29) (fun j hj => e _ (by omega) (by omega))]; exact (ca a ha).2.2
  · rw [u _ _ (H6_n (by omega)) (by omega) (by omega), e _ (by omega) (by omega)]; exact cb r' hr'
  · refine WR_congr (fun l hl => ?_) hW
    show _ = wt (beG G z) (beG G z 36) l
    rw [beG_36, wt_be z l hl]
  · rw [beG_36] at hk; omega
  · rw [beG_36] at hk
    obtain rfl : k = 0 := by omega
    rw [u10, mdF_congr 8 (fun l hl => (wt_be z l (by omega)).symm)]
  · rw [e 29 (by omega) (by omega)] at hj
    obtain ⟨⟨f0, f1, f2, f3, f4, f5, f6, f7⟩, fr, ft⟩ := ci j hj
    have hbit : (hs G (G 33 + 1) z (G 29)).testBit j = hldB G (G 33 + 1) z j := by rw [hs_bit]; simp [hj]
    have f7' : iv (B + 12 + 3 * j) 7 = -1 := by rw [f7, h36]; rfl
    unfold CI
    rw [e _ (by omega) (by omega), e _ (by omega) (by omega), e _ (by omega) (by omega), e _ (by omega) (by omega), e _ (by omega) (by omega), e _ (by omega) (by omega), beG_35 hB, hbit, beG_36]
    refine ⟨⟨?_, ?_, ?_, ?_, ?_, ?_, u6 j hj, ?_⟩, fun l hl => ?_, fun l hl => ?_⟩
    · rw [u _ _ (H6_n (by omega)) (by omega) (by omega)]; exact f0
    · rw [u _ _ (H6_n (by omega)) (by omega) (by omega)]; exact f1
    · rw [u _ _ (H6_n (by omega)) (by omega) (by omega)]; exact f2
    · rw [u _ _ (H6_n (by omega)) (by omega) (by omega)]; exact f3
    · rw [u _ _ (H6_n (by omega)) (by omega) (by omega)]; exact f4
    · rw [u _ _ (H6_n (by omega)) (by omega) (by omega)]; exact f5
    · rw [u _ _ (H6_n (by omega)) (by omega) (by omega)]; exact f7'
    · rw [u _ _ (H6_n (by omega)) (by omega) (by omega)]; exact fr l hl
    · rw [u _ _ (H6_n (by omega)) (by omega) (by omega)]; exact ft l hl
  · by_cases e29 : j < G 29
    · rw [u6 j e29]
      unfold b01; split
      · exact Or.inr rfl
      · exact Or.inl rfl
    · rw [u6' j hj (by omega)]; exact ch j hj
theorem sp_o_start {z : Int32} (hb : isB B) (hC : CR B G iv jv) (hB : IB G) (hn : nz G) (h36 : G 36 = 0) (ht : G 33 < 1000) (hQ : ∀ iv' jv', FB B iv jv iv' jv' → CR B (beG G z) iv' jv' → Q (some (.int (nI (vBegin G z)))) (mk iv' jv')) : XM (d + 4) Yo_start [.ref B, .int z] iv jv Q := by
  obtain ⟨⟨c4, c5, c6, c7, c9, c11, c14⟩, cp, ca, cb, cw, ck, cm, ci, ch⟩ := id hC
  obtain ⟨s0, s1, s2, s3, s4, s5, s6, s7, s8, s9, s10, s11⟩ := sB hb
  have hlb := lt_B hb
  have b1 := hB.1
  have b6 := hB.2.2.2.2.2.1
  have hlt : ∀ l, l < 9 → G l < 9223372036854775808 := fun l hl => by have := b6 l (by omega); omega
  have ev : vBegin G z = cntB (hs G (G 33 + 1) z (G 29)) 8 := by unfold vBegin; rw [hs_bg hB]
  simp (disch := first | assumption | omega) only [e_o_start, x_o_start_0, x_o_start_1, x_o_start_2, x_o_start_5, x_o_start_6, x_o_start_7, x_o_start_10, x_o_start_11, x_o_start_12, x_o_start_13, x_o_start_14, x_o_start_15, x_o_start_19, x_o_start_20, x_o_start_23, x_o_start_26, x_o_start_27, x_o_start_30, x_o_start_31, x_o_start_32, x_o_start_35, x_o_start_37, x_o_start_38, x_o_start_40, x_o_start_42, x_o_start_44, x_o_start_46, x_o_start_49, x_o_start_50, x_o_start_51, x_o_start_52, x_o_start_54, x_o_start_57, x_o_start_58, x_o_start_61, x_o_start_62, x_o_start_65, x_o_start_66, x_o_start_68, x_o_start_69, x_o_start_71, x_o_start_72, x_o_start_73, x_o_start_76, x_o_start_79, x_o_start_80, x_o_start_83, x_o_start_84, x_o_start_87, x_o_start_89, x_o_start_92, x_o_start_95, x_o_start_98, x_o_start_101, x_o_start_104, x_o_start_105, x_o_start_106, x_o_start_109, x_o_start_110, x_o_start_113, x_o_start_114, x_o_start_117, x_o_start_120, x_o_start_121, x_o_start_124, x_o_start_127, x_o_start_128, x_o_start_131, x_o_start_132, x_o_start_133, x_o_start_136, x_o_start_139, x_o_start_140, x_o_start_141, s0, true_and, c7, q_add]
  have hc0 : cntB (hs G (G 33 + 1) z 0) 8 = 0 := by show cntB 0 8 = 0; decide
  have key : XT (d + 3) Yo_start 17 [.ref B, .int z, .int z, .int (nI (cntB (hs G (G 33 + 1) z 0) 8)), .int (nI 0), mU] [] (upi iv B 7 (nI (G 33 + 1))) jv Q := by
    refine lp_o_start (d := d + 2) (iv := upi iv B 7 (nI (G 33 + 1))) (t := G 33 + 1) (s := z) hb hB (by omega) ?_ (upi_at _ _ _ _) ?_ (fun i hi => ⟨?_, ?_⟩) (fun iv1 u h1 h2 h3 => ?_) (G 29) 0 (by omega) _ _ (fun _ _ _ => rfl) (fun j hj => absurd hj (by omega)) (fun _ _ _ => rfl)
    · rw [upi_ne (by omega)]; exact c6
    · rw [upi_ne (by omega)]; exact c9
    · rw [upi_ne (by omega)]; exact (ci i hi).1.2.2.2.2.1
    · rw [upi_ne (by omega)]; exact (ci i hi).1.2.2.2.2.2.1
    · have v9 : iv1 B 9 = nI (G 29) := by rw [h1 _ _ (H6_n (by omega)), upi_ne (by omega)]; exact c9
      rw [x_o_start_17]
      simp (disch := first | assumption | omega) only [x_o_start_0, x_o_start_1, x_o_start_2, x_o_start_5, x_o_start_6, x_o_start_7, x_o_start_10, x_o_start_11, x_o_start_12, x_o_start_13, x_o_start_14, x_o_start_15, x_o_start_19, x_o_start_20, x_o_start_23, x_o_start_26, x_o_start_27, x_o_start_30, x_o_start_31, x_o_start_32, x_o_start_35, x_o_start_37, x_o_start_38, x_o_start_40, x_o_start_42, x_o_start_44, x_o_start_46, x_o_start_49, x_o_start_50, x_o_start_51, x_o_start_52, x_o_start_54, x_o_start_57, x_o_start_58, x_o_start_61, x_o_start_62, x_o_start_65, x_o_start_66, x_o_start_68, x_o_start_69, x_o_start_71, x_o_start_72, x_o_start_73, x_o_start_76, x_o_start_79, x_o_start_80, x_o_start_83, x_o_start_84, x_o_start_87, x_o_start_89, x_o_start_92, x_o_start_95, x_o_start_98, x_o_start_101, x_o_start_104, x_o_start_105, x_o_start_106, x_o_start_109, x_o_start_110, x_o_start_113, x_o_start_114, x_o_start_117, x_o_start_120, x_o_start_121, x_o_start_124, x_o_start_127, x_o_start_128, x_o_start_131, x_o_start_132, x_o_start_133, x_o_start_136, x_o_start_139, x_o_start_140, x_o_start_141, s0, s7, true_and, v9, q_le, Nat.le_refl, if_true, z11, or_true]
      refine sp_w_become (f := G) s7 s8 s1 (by omega) (fun l hl => by have := b6 l (by omega); omega) (fun l hl => ?_) (fun jv1 hF1 hW1 => ?_)
      · rw [upi_ne (by omega), h1 _ _ (H6_n (by omega)), upi_ne (by omega)]; exact cp l hl
      · simp (disch := first | assumption | omega) only [XK_n, x_o_start_0, x_o_start_1, x_o_start_2, x_o_start_5, x_o_start_6, x_o_start_7, x_o_start_10, x_o_start_11, x_o_start_12, x_o_start_13, x_o_start_14, x_o_start_15, x_o_start_19, x_o_start_20, x_o_start_23, x_o_start_26, x_o_start_27, x_o_start_30, x_o_start_31, x_o_start_32, x_o_start_35, x_o_start_37, x_o_start_38, x_o_start_40, x_o_start_42, x_o_start_44, x_o_start_46, x_o_start_49, x_o_start_50, x_o_start_51, x_o_start_52, x_o_start_54, x_o_start_57, x_o_start_58, x_o_start_61, x_o_start_62, x_o_start_65, x_o_start_66, x_o_start_68, x_o_start_69, x_o_start_71, x_o_start_72, x_o_start_73, x_o_start_76, x_o_start_79, x_o_start_80, x_o_start_83, x_o_start_84, x_o_start_87, x_o_start_89, x_o_start_92, x_o_start_95, x_o_start_98, x_o_start_101, x_o_start_104, x_o_start_105, x_o_start_106, x_o_start_109, x_o_start_110, x_o_start_113, x_o_start_114, x_o_start_117, x_o_start_120, x_o_start_121, x_o_start_124, x_o_start_127, x_o_start_128, x_o_start_131, x_o_start_132, x_o_start_133, x_o_start_136, x_o_start_139, x_o_start_140, x_o_start_141, s0, s7, true_and]
        refine sp_w_lower (f := G) s7 s8 hlt hn hW1.1 (fun jv2 hF2 hW2 => ?_)
        have hh := fun (iv : mI) (Q : Option Value → mH → Prop) => sp_w_heaviest (d := d + 2) (iv := iv) (jv := jv2) (Q := Q) (f := dv G) s7 s8 (fun l hl => Nat.lt_of_le_of_lt (dv_le _ _) (hlt l hl)) hW2.1
        simp (disch := first | assumption | omega) only [XK_n, XK_s, x_o_start_0, x_o_start_1, x_o_start_2, x_o_start_5, x_o_start_6, x_o_start_7, x_o_start_10, x_o_start_11, x_o_start_12, x_o_start_13, x_o_start_14, x_o_start_15, x_o_start_19, x_o_start_20, x_o_start_23, x_o_start_26, x_o_start_27, x_o_start_30, x_o_start_31, x_o_start_32, x_o_start_35, x_o_start_37, x_o_start_38, x_o_start_40, x_o_start_42, x_o_start_44, x_o_start_46, x_o_start_49, x_o_start_50, x_o_start_51, x_o_start_52, x_o_start_54, x_o_start_57, x_o_start_58, x_o_start_61, x_o_start_62, x_o_start_65, x_o_start_66, x_o_start_68, x_o_start_69, x_o_start_71, x_o_start_72, x_o_start_73, x_o_start_76, x_o_start_79, x_o_start_80, x_o_start_83, x_o_start_84, x_o_start_87, x_o_start_89, x_o_start_92, x_o_start_95, x_o_start_98, x_o_start_101, x_o_start_104, x_o_start_105, x_o_start_106, x_o_start_109, x_o_start_110, x_o_start_113, x_o_start_114, x_o_start_117, x_o_start_120, x_o_start_121, x_o_start_124, x_o_start_127, x_o_start_128, x_o_start_131, x_o_start_132, x_o_start_133, x_o_start_136, x_o_start_139, x_o_start_140, x_o_start_141, s0, s7, s10, true_and, hh, q_in, q_tn]
        rw [ev] at hQ
        refine hQ _ _ ⟨fun q k hq => ?_, (FB_t (FJ_FB (iv := iv) hF1) (FJ_FB hF2)).2⟩ (CR_be hb hC hB h36 (fun q k e1 e2 e3 => ?_) ?_ ?_ ?_ (fun i hi => ?_) (fun i hi hi' => ?_) hW2)
        · rw [upi_ne (by omega), upi_ne (by omega), h1 _ _ (H6_n (by omega)), upi_ne (by omega)]
        · rw [upi_ne (by omega), upi_ne (by omega), h1 _ _ e1, upi_ne (by omega)]
        · rw [upi_ne (by omega), upi_ne (by omega), h1 _ _ (H6_n (by omega)), upi_at]
        · rw [upi_ne (by omega), upi_at]
        · exact upi_at _ _ _ _
        · rw [upi_ne (by omega), upi_ne (by omega)]; exact h2 i hi
        · rw [upi_ne (by omega), upi_ne (by omega), h3 i hi hi', upi_ne (by omega)]
  rw [hc0] at key
  exact key
end START
