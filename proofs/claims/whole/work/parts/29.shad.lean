section SHAD
variable {d : Nat} {iv : mI} {jv : mJ} {Q : Option Value → mH → Prop} {G : Nat → Nat} {f : Nat → Nat}
def shD (G : Nat → Nat) (s : Nat) : Decidable (shB G s) := by unfold shB qA; infer_instance
def shQ (G : Nat → Nat) (s : Nat) : Bool := @decide (shB G s) (shD G s)
theorem shQ_iff (G : Nat → Nat) (s : Nat) : shQ G s = true ↔ shB G s := @decide_eq_true_iff _ (shD G s)
theorem sp_isShadow {s : Nat} (hG : ∀ k, k < 101 → jv 119 k = lN (G k)) (hB : IB G) (hs : s < 256) : XM (d + 3) Ym_isShadow [.ref 118, .int (nI s), .int (nI (askB G (G 36)))] iv jv Q = Q (some (.int (b01 (shQ G s = true)))) (mk iv jv) := by
  rw [@sp_m_isShadow _ _ _ _ _ _ hG hB hs (shD G s), @b01_congr _ _ (shD G s) _ (shQ_iff G s).symm]
/-- what an ITEM tells in all, and whether that is too great -/
def Tn (G : Nat → Nat) (i : Nat) : Nat × Bool := gst (WN G) (tel G i) 9
theorem Tn_lt (G : Nat → Nat) (i : Nat) : (Tn G i).1 < 9223372036854775808 := gst_lt _ _ _
theorem sp_tellsAll {i : Nat} (hG : ∀ k, k < 101 → jv 119 k = lN (G k)) (hB : IB G) (hi : i < 8) (hW : ∀ l, l < 9 → jv 122 l = lN (WN G l)) : XM (d + 5) Ym_tellsAll [.ref 118, .int (nI i)] iv jv Q = Q (some (.long (lN (Tn G i).1))) (mk (fl iv (Tn G i).2) jv) :=
  sp_m_tellsAll hG hB hi hW (WN_lt hB)
def gsi (G : Nat → Nat) (s : Nat) : Nat → Nat × Bool
  | 0 => (0, false)
  | n + 1 => if s.testBit n = true then (pv (gsi G s n).1 (Tn G n).1, ((gsi G s n).2 || (Tn G n).2) || pf (gsi G s n).1 (Tn G n).1) else gsi G s n
theorem gsi_s (G : Nat → Nat) (s n : Nat) : gsi G s (n + 1) = if s.testBit n = true then (pv (gsi G s n).1 (Tn G n).1, ((gsi G s n).2 || (Tn G n).2) || pf (gsi G s n).1 (Tn G n).1) else gsi G s n := rfl
theorem gsi_lt (G : Nat → Nat) (s : Nat) : ∀ n, (gsi G s n).1 < 9223372036854775808
  | 0 => by show 0 < _; decide
  | n + 1 => by
    rw [gsi_s]
    split
    · exact pv_lt _ _
    · exact gsi_lt G s n
theorem lp_m_informs {s : Nat} (hG : ∀ k, k < 101 → jv 119 k = lN (G k)) (hB : IB G) (hs : s < 256) (hW : ∀ l, l < 9 → jv 122 l = lN (WN G l)) : ∀ n i, i + n = G 29 → XT (d + 5) Ym_informs 5 [.ref 118, .int (nI s), .long (lN (gsi G s i).1), mW, .int (nI i)] [] (fl iv (gsi G s i).2) jv Q = Q (some (.long (lN (gsi G s (G 29)).1))) (mk (fl iv (gsi G s (G 29)).2) jv) := by
  have hb := hB.1
  have g29 := hG 29 (by decide)
  intro n
  induction n with
  | zero =>
    intro i hi
    obtain rfl : i = G 29 := by omega
    rw [x_m_informs_5]
    simp (disch := omega) only [x_m_informs_0, x_m_informs_1, x_m_informs_2, x_m_informs_3, x_m_informs_7, x_m_informs_8, x_m_informs_9, x_m_informs_12, x_m_informs_14, x_m_informs_15, x_m_informs_16, x_m_informs_19, x_m_informs_20, x_m_informs_21, x_m_informs_23, x_m_informs_26, x_m_informs_29, x_m_informs_30, x_m_informs_31, x_m_informs_32, x_m_informs_34, x_m_informs_37, x_m_informs_40, x_m_informs_41, x_m_informs_44, x_m_informs_47, x_m_informs_48, q_i2l, q_in, q_tn, true_and, g29, c_ge, q_lle, Nat.le_refl, if_true]
  | succ n ih =>
    intro i hi
    have h4 : ¬ G 29 ≤ i := by omega
    have h5 := Tn_lt G i
    have h6 := gsi_lt G s i
    have h8 := ih (i + 1) (by omega)
    have h9 : i < 8 := by omega
    rw [gsi_s] at h8
    rw [x_m_informs_5]
    simp (disch := first | assumption | omega) only [x_m_informs_0, x_m_informs_1, x_m_informs_2, x_m_informs_3, x_m_informs_7, x_m_informs_8, x_m_informs_9, x_m_informs_12, x_m_informs_14, x_m_informs_15, x_m_informs_16, x_m_informs_19, x_m_informs_20, x_m_informs_21, x_m_informs_23, x_m_informs_26, x_m_informs_29, x_m_informs_30, x_m_informs_31, x_m_informs_32, x_m_informs_34, x_m_informs_37, x_m_informs_40, x_m_informs_41, x_m_informs_44, x_m_informs_47, x_m_informs_48, q_i2l, q_in, q_tn, true_and, g29, c_ge, q_lle, h4, if_false, sp_m_has, XK_s, b01_eq0, sp_tellsAll hG hB h9 hW, sp_m_plus, fl_fl, q_add]
    by_cases h : s.testBit i = true
    · rw [if_pos h] at h8
      simp only [h, not_true_eq_false, if_false]
      exact h8
    · rw [if_neg h] at h8
      simp only [h, not_false_eq_true, if_true]
      exact h8
theorem sp_m_informs {s : Nat} (hG : ∀ k, k < 101 → jv 119 k = lN (G k)) (hB : IB G) (hs : s < 256) (hW : ∀ l, l < 9 → jv 122 l = lN (WN G l)) : XM (d + 6) Ym_informs [.ref 118, .int (nI s)] iv jv Q = Q (some (.long (lN (gsi G s (G 29)).1))) (mk (fl iv (gsi G s (G 29)).2) jv) := by
  simp only [e_m_informs, x_m_informs_0, x_m_informs_1, x_m_informs_2, x_m_informs_3, x_m_informs_7, x_m_informs_8, x_m_informs_9, x_m_informs_12, x_m_informs_14, x_m_informs_15, x_m_informs_16, x_m_informs_19, x_m_informs_20, x_m_informs_21, x_m_informs_23, x_m_informs_26, x_m_informs_29, x_m_informs_30, x_m_informs_31, x_m_informs_32, x_m_informs_34, x_m_informs_37, x_m_informs_40, x_m_informs_41, x_m_informs_44, x_m_informs_47, x_m_informs_48]
  exact lp_m_informs hG hB hs hW (G 29) 0 (by omega)
/-- 'most' and 'best' of a search: 0 is none yet -/
def mo (m : Nat) : Int64 := if m = 0 then -1 else lN (m - 1)
def bo (b : Nat) : Int32 := if b = 0 then -1 else nI (b - 1)
theorem mo_s (v : Nat) : mo (v + 1) = lN v := rfl
theorem bo_s (v : Nat) : bo (v + 1) = nI v := rfl
theorem mo_0 : mo 0 = -1 := rfl
theorem bo_0 : bo 0 = -1 := rfl
theorem mo_lt {m v : Nat} (hm : m < 9223372036854775809) (hv : v < 9223372036854775808) : (mo m < lN v) = (m ≤ v) := by
  apply propext
  rw [Int64.lt_iff_toInt_lt, lN_toI hv]
  unfold mo
  split
  · have : (-1 : Int64).toInt = -1 := by decide
    omega
  · rw [lN_toI (by omega)]; omega
theorem mo_le {m v : Nat} (hm : m < 9223372036854775809) (hv : v < 9223372036854775808) : (lN v ≤ mo m) = ¬ (m ≤ v) := by
  rw [i64_le, mo_lt hm hv]
def jf (G : Nat → Nat) (s : Nat) : Nat × Bool := gsi G (dif s (askB G (G 36))) (G 29)
theorem jf_lt (G : Nat → Nat) (s : Nat) : (jf G s).1 < 9223372036854775808 := gsi_lt _ _ _
def sc (G : Nat → Nat) : Nat → Nat × Nat × Bool
  | 0 => (0, 0, false)
  | k + 1 => if (sc G k).2.2 = true then sc G k else if shQ G k = true then (if (jf G k).2 = true then ((sc G k).1, (sc G k).2.1, true) else if (sc G k).2.1 ≤ (jf G k).1 then (k, (jf G k).1 + 1, false) else sc G k) else sc G k
theorem sc_s (G : Nat → Nat) (k : Nat) : sc G (k + 1) = if (sc G k).2.2 = true then sc G k else if shQ G k = true then (if (jf G k).2 = true then ((sc G k).1, (sc G k).2.1, true) else if (sc G k).2.1 ≤ (jf G k).1 then (k, (jf G k).1 + 1, false) else sc G k) else sc G k := rfl
theorem sc_great {G : Nat → Nat} {k : Nat} (h : (sc G k).2.2 = true) : ∀ n, (sc G (k + n)).2.2 = true
  | 0 => h
  | n + 1 => by
    rw [← Nat.add_assoc, sc_s, if_pos (sc_great h n)]; exact sc_great h n
theorem sc_le (G : Nat → Nat) : ∀ k, (sc G k).1 ≤ k
  | 0 => Nat.le_refl _
  | k + 1 => by
    have := sc_le G k
    rw [sc_s]
    split
    · omega
    · split
      · split
        · dsimp only; omega
        · split
          · dsimp only; omega
          · omega
      · omega
theorem sc_lt (G : Nat → Nat) : ∀ k, (sc G k).2.1 < 9223372036854775809
  | 0 => by show 0 < _; decide
  | k + 1 => by
    have := sc_lt G k
    have h := jf_lt G k
    rw [sc_s]
    split
    · omega
    · split
      · split
        · dsimp only; omega
        · split
          · dsimp only; omega
          · omega
      · omega
def scN (G : Nat → Nat) : Nat × Nat × Bool := sc G (2 ^ G 29)
theorem scN_lt (G : Nat → Nat) : (scN G).2.1 < 9223372036854775809 := sc_lt _ _
def shV (G : Nat → Nat) : Int32 := if (scN G).2.2 = true then -7 else if (scN G).2.1 = 0 then -8 else nI (scN G).1
theorem pow_le {k : Nat} (h : k ≤ 8) : 2 ^ k ≤ 256 := Nat.pow_le_pow_right (n := 2) (by decide) h
theorem lp_m_shadowNow (hG : ∀ k, k < 101 → jv 119 k = lN (G k)) (hB : IB G) : ∀ n k, k + n = 2 ^ G 29 → (sc G k).2.2 = false → ∀ u6 u7, XT (d + 6) Ym_shadowNow 18 [.ref 118, .int (nI (askB G (G 36))), .int (nI (sc G k).1), .long (mo (sc G k).2.1), mW, .int (nI k), u6, u7] [] (upi iv 118 5 (nI 0)) (stW jv (WN G) 9) Q = Q (some (.int (shV G))) (mk (fl (upi iv 118 5 (nI 0)) (scN G).2.2) (stW jv (WN G) 9)) := by
  have hb := hB.1
  have hp := pow_le hb
  have hG2 : ∀ k, k < 101 → stW jv (WN G) 9 119 k = lN (G k) := ne119 hG
  have g29 := hG2 29 (by decide)
  have hW := WN_ge (f := WN G) jv
  have hA := askB_lt (fun k hk => (hB.2.2.2.2.1 k hk).1) _ hB.2.1
  intro n
  induction n with
  | zero =>
    intro k hk hs u6 u7
    obtain rfl : k = 2 ^ G 29 := by omega
    have e0 : (mo (scN G).2.1 < lN 0) = ((scN G).2.1 = 0) := by
      rw [mo_lt (scN_lt G) (by decide)]; apply propext; omega
    have e1 : (lN 0 ≤ mo (scN G).2.1) = ¬ ((scN G).2.1 = 0) := by rw [i64_le, e0]
    rw [x_m_shadowNow_18]
    show XT (d + 6) Ym_shadowNow 20 [_, _, .int (nI (scN G).1), .long (mo (scN G).2.1), _, _, _, _] _ _ _ _ = _
    have hs' : (scN G).2.2 = false := hs
    simp (disch := first | assumption | omega) only [x_m_shadowNow_0, x_m_shadowNow_1, x_m_shadowNow_4, x_m_shadowNow_5, x_m_shadowNow_8, x_m_shadowNow_9, x_m_shadowNow_10, x_m_shadowNow_11, x_m_shadowNow_14, x_m_shadowNow_15, x_m_shadowNow_16, x_m_shadowNow_20, x_m_shadowNow_21, x_m_shadowNow_22, x_m_shadowNow_24, x_m_shadowNow_27, x_m_shadowNow_28, x_m_shadowNow_31, x_m_shadowNow_32, x_m_shadowNow_34, x_m_shadowNow_35, x_m_shadowNow_38, x_m_shadowNow_41, x_m_shadowNow_44, x_m_shadowNow_45, x_m_shadowNow_47, x_m_shadowNow_48, x_m_shadowNow_49, x_m_shadowNow_50, x_m_shadowNow_51, x_m_shadowNow_54, x_m_shadowNow_56, x_m_shadowNow_57, x_m_shadowNow_60, x_m_shadowNow_63, x_m_shadowNow_65, x_m_shadowNow_66, x_m_shadowNow_68, x_m_shadowNow_69, x_m_shadowNow_70, x_m_shadowNow_73, x_m_shadowNow_75, x_m_shadowNow_76, x_m_shadowNow_78, x_m_shadowNow_79, x_m_shadowNow_82, x_m_shadowNow_85, x_m_shadowNow_86, x_m_shadowNow_87, x_m_shadowNow_88, x_m_shadowNow_91, x_m_shadowNow_93, x_m_shadowNow_96, x_m_shadowNow_97, sp_m_get, g29, q_l2i, XK_s, shl_fin, q_le, Nat.le_refl, if_true, c_ge, c_lt, e0, e1, hs', fl_f]
    have e5 : shV G = if (scN G).2.1 = 0 then -8 else nI (scN G).1 := by unfold shV; rw [if_neg (by rw [hs']; decide)]
    rw [e5]
    by_cases h : (scN G).2.1 = 0 <;> simp [h]
  | succ n ih =>
    intro k hk hs u6 u7
    have h4 : ¬ 2 ^ G 29 ≤ k := by omega
    have h5 : k < 256 := by omega
    have h6 := jf_lt G k
    have h7 := sc_lt G k
    have h8 := ih (k + 1) (by omega)
    have h9 := dif_lt (s := askB G (G 36)) h5
    rw [sc_s, if_neg (by rw [hs]; decide)] at h8
    have hi := fun (R : Option Value → mH → Prop) => sp_m_informs (Q := R) (d := d) (iv := upi iv 118 5 (nI 0)) hG2 hB h9 hW
    rw [show gsi G (dif k (askB G (G 36))) (G 29) = jf G k from rfl] at hi
    rw [x_m_shadowNow_18]
    simp (disch := first | assumption | omega) only [x_m_shadowNow_0, x_m_shadowNow_1, x_m_shadowNow_4, x_m_shadowNow_5, x_m_shadowNow_8, x_m_shadowNow_9, x_m_shadowNow_10, x_m_shadowNow_11, x_m_shadowNow_14, x_m_shadowNow_15, x_m_shadowNow_16, x_m_shadowNow_20, x_m_shadowNow_21, x_m_shadowNow_22, x_m_shadowNow_24, x_m_shadowNow_27, x_m_shadowNow_28, x_m_shadowNow_31, x_m_shadowNow_32, x_m_shadowNow_34, x_m_shadowNow_35, x_m_shadowNow_38, x_m_shadowNow_41, x_m_shadowNow_44, x_m_shadowNow_45, x_m_shadowNow_47, x_m_shadowNow_48, x_m_shadowNow_49, x_m_shadowNow_50, x_m_shadowNow_51, x_m_shadowNow_54, x_m_shadowNow_56, x_m_shadowNow_57, x_m_shadowNow_60, x_m_shadowNow_63, x_m_shadowNow_65, x_m_shadowNow_66, x_m_shadowNow_68, x_m_shadowNow_69, x_m_shadowNow_70, x_m_shadowNow_73, x_m_shadowNow_75, x_m_shadowNow_76, x_m_shadowNow_78, x_m_shadowNow_79, x_m_shadowNow_82, x_m_shadowNow_85, x_m_shadowNow_86, x_m_shadowNow_87, x_m_shadowNow_88, x_m_shadowNow_91, x_m_shadowNow_93, x_m_shadowNow_96, x_m_shadowNow_97, sp_m_get, g29, q_l2i, XK_s, shl_fin, q_le, h4, if_false, sp_isShadow hG2 hB h5, b01_eq0, nI_dif, hi]
    by_cases h : shQ G k = true
    · rw [if_pos h] at h8
      by_cases h2 : (jf G k).2 = true
      · have e3 : (sc G (k + 1)).2.2 = true := by rw [sc_s, if_neg (by rw [hs]; decide), if_pos h, if_pos h2]
        have e4 : (scN G).2.2 = true := by
          have := sc_great e3 n
          unfold scN; rw [← hk, show k + (n + 1) = k + 1 + n from by omega]; exact this
        have e5 : shV G = -7 := by unfold shV; rw [if_pos e4]
        simp only [h, h2, fl_t, upi_upi, upi_at, n10, not_true_eq_false, if_false, if_true, e4, e5]
      · have h2' : (jf G k).2 = false := by simpa using h2
        rw [if_neg h2] at h8
        by_cases h3 : (sc G k).2.1 ≤ (jf G k).1
        · rw [if_pos h3] at h8
          have h8 := h8 rfl
          simp only [mo_s] at h8
          simp (disch := first | assumption | omega) only [h, h2', fl_f, upi_at, not_true_eq_false, if_false, if_true, c_le, mo_le, h3, not_true_eq_false, q_add]
          exact h8 _ _
        · rw [if_neg h3] at h8
          simp (disch := first | assumption | omega) only [h, h2', fl_f, upi_at, not_true_eq_false, not_false_eq_true, if_false, if_true, c_le, mo_le, h3, q_add]
          exact h8 hs _ _
    · rw [if_neg h] at h8
      simp (disch := first | assumption | omega) only [h, not_false_eq_true, if_true, q_add]
      exact h8 hs _ _
theorem sp_m_shadowNow (hG : ∀ k, k < 101 → jv 119 k = lN (G k)) (hB : IB G) (hn : nz (wt G 0)) : XM (d + 7) Ym_shadowNow [.ref 118] iv jv Q = Q (some (.int (shV G))) (mk (fl (upi iv 118 5 (nI 0)) (scN G).2.2) (stW jv (WN G) 9)) := by
  have hp : 1 ≤ 2 ^ G 29 := Nat.one_le_two_pow
  have h30 := hB.2.2.2.2.2.2.2.2.1.1
  have h0 : ¬ shQ G 0 = true := by
    rw [shQ_iff]
    intro h
    have h1 := h.1.1
    have : cntB 0 8 = 0 := by decide
    omega
  have h1 : sc G 1 = (0, 0, false) := by
    rw [sc_s, if_neg (show ¬ (sc G 0).2.2 = true from fun z => Bool.noConfusion z), if_neg h0]; rfl
  have h := fun u6 u7 => lp_m_shadowNow (d := d) (iv := iv) (jv := jv) (Q := Q) hG hB (2 ^ G 29 - 1) 1 (by omega) (by rw [h1]) u6 u7
  rw [h1] at h
  have hG2 : ∀ k, k < 101 → stW jv (WN G) 9 119 k = lN (G k) := ne119 hG
  simp only [e_m_shadowNow, x_m_shadowNow_0, x_m_shadowNow_1, x_m_shadowNow_4, x_m_shadowNow_5, x_m_shadowNow_8, x_m_shadowNow_9, x_m_shadowNow_10, x_m_shadowNow_11, x_m_shadowNow_14, x_m_shadowNow_15, x_m_shadowNow_16, x_m_shadowNow_20, x_m_shadowNow_21, x_m_shadowNow_22, x_m_shadowNow_24, x_m_shadowNow_27, x_m_shadowNow_28, x_m_shadowNow_31, x_m_shadowNow_32, x_m_shadowNow_34, x_m_shadowNow_35, x_m_shadowNow_38, x_m_shadowNow_41, x_m_shadowNow_44, x_m_shadowNow_45, x_m_shadowNow_47, x_m_shadowNow_48, x_m_shadowNow_49, x_m_shadowNow_50, x_m_shadowNow_51, x_m_shadowNow_54, x_m_shadowNow_56, x_m_shadowNow_57, x_m_shadowNow_60, x_m_shadowNow_63, x_m_shadowNow_65, x_m_shadowNow_66, x_m_shadowNow_68, x_m_shadowNow_69, x_m_shadowNow_70, x_m_shadowNow_73, x_m_shadowNow_75, x_m_shadowNow_76, x_m_shadowNow_78, x_m_shadowNow_79, x_m_shadowNow_82, x_m_shadowNow_85, x_m_shadowNow_86, x_m_shadowNow_87, x_m_shadowNow_88, x_m_shadowNow_91, x_m_shadowNow_93, x_m_shadowNow_96, x_m_shadowNow_97, sp_weighs hG hB hn, XK_n, sp_m_asked hG2 hB, XK_s]
  exact h _ _
theorem sp_m_shadow (hG : ∀ k, k < 101 → jv 119 k = lN (G k)) (hB : IB G) (hn : nz (wt G 0)) (hQ : ∀ iv' jv', FR iv jv iv' jv' → Q (some (.int (if G 34 = 1 then shV G else -3))) (mk iv' jv')) : XM (d + 8) Ym_shadow [.ref 118] iv jv Q := by
  obtain ⟨b1, b2, b3, b4, b5, b6, b7, b8, b9, b10, b11, b12, b13⟩ := id hB
  have g34 := hG 34 (by decide)
  simp only [e_m_shadow, x_m_shadow_0, x_m_shadow_1, x_m_shadow_4, x_m_shadow_7, x_m_shadow_8, x_m_shadow_11, x_m_shadow_14, x_m_shadow_16, sp_m_isOn g34 b13, XK_s, b01_eq0, sp_m_shadowNow hG hB hn]
  by_cases h : G 34 = 1
  · simp only [h, not_true_eq_false, if_false, if_true] at hQ ⊢
    exact hQ _ _ (FR_t (FR_5 iv jv _) (FR_t (FR_fl _ _ _) (FR_w _ _ _ _)))
  · simp only [h, not_false_eq_true, if_false, if_true] at hQ ⊢
    exact hQ _ _ (FR_r _ _)
end SHAD
