section RULE
variable {d : Nat} {iv : mI} {jv : mJ} {Q : Option Value → mH → Prop} {G : Nat → Nat} {f : Nat → Nat}
def An (G : Nat → Nat) : Nat × Bool := gst c1 (WN G) 9
theorem An_lt (G : Nat → Nat) : (An G).1 < 9223372036854775808 := gst_lt _ _ _
theorem sp_all (hB : IB G) (hW : ∀ l, l < 9 → jv 122 l = lN (WN G l)) : XM (d + 2) Ym_all [.ref 118] iv jv Q = Q (some (.long (lN (An G).1))) (mk (fl iv (An G).2) jv) := sp_m_all hW (WN_lt hB)
def mdN (G : Nat → Nat) : Nat := mdF (WN G) 8
def suF (G : Nat → Nat) : Bool := (tf (WN G (mdN G)) 100 || (An G).2) || tf (An G).1 (G 25)
def suP (G : Nat → Nat) : Bool := decide (tv (An G).1 (G 25) ≤ tv (WN G (mdN G)) 100)
theorem mdN_le (G : Nat → Nat) : mdN G ≤ 8 := mdF_le _ _
theorem sp_modeNow (hB : IB G) (hW : ∀ l, l < 9 → jv 122 l = lN (WN G l)) : XM (d + 1) Ym_modeNow [.ref 118] iv jv Q = Q (some (.int (nI (mdN G)))) (mk iv jv) := sp_m_modeNow hW (WN_lt hB)
theorem sp_m_isSure (hG : ∀ k, k < 101 → jv 119 k = lN (G k)) (hB : IB G) (hW : ∀ l, l < 9 → jv 122 l = lN (WN G l)) : XM (d + 3) Ym_isSure [.ref 118] iv jv Q = Q (some (.int (b01 (suP G = true)))) (mk (fl iv (suF G)) jv) := by
  have hm := mdN_le G
  have hA := An_lt G
  have hw := WN_lt hB (mdN G) (by omega)
  have b8 := hB.2.2.2.2.2.2.2.1 1 (by decide)
  simp only [Nat.reduceAdd] at b8
  have t1 := tv_lt (WN G (mdN G)) 100
  have t2 := tv_lt (An G).1 (G 25)
  have g25 := hG 25 (by decide)
  simp (disch := first | assumption | omega) only [e_m_isSure, x_m_isSure_0, x_m_isSure_1, x_m_isSure_2, x_m_isSure_5, x_m_isSure_6, x_m_isSure_9, x_m_isSure_10, x_m_isSure_13, x_m_isSure_16, x_m_isSure_17, x_m_isSure_18, x_m_isSure_21, x_m_isSure_22, x_m_isSure_25, x_m_isSure_27, x_m_isSure_28, x_m_isSure_31, x_m_isSure_32, x_m_isSure_35, x_m_isSure_36, x_m_isSure_39, x_m_isSure_40, sp_modeNow hB hW, XK_s, q_in, q_tn, true_and, hW, sp_m_times, sp_all hB hW, g25, q_add, Nat.reduceAdd, fl_fl, c_lt, c_ge, q_llt, q_lle, z01, z11, or_true, true_or]
  by_cases h : tv (An G).1 (G 25) ≤ tv (WN G (mdN G)) 100
  · have h' : ¬ tv (WN G (mdN G)) 100 < tv (An G).1 (G 25) := by omega
    simp [h, h', suP, suF, b01]
  · have h' : tv (WN G (mdN G)) 100 < tv (An G).1 (G 25) := by omega
    simp [h, h', suP, suF, b01]
def nrF (G : Nat → Nat) : Bool := (spB (WN G) || tf (spN (WN G)) 10) || tf (spL (WN G)) (G 26)
def nrP (G : Nat → Nat) : Bool := decide (tv (spN (WN G)) 10 ≤ tv (spL (WN G)) (G 26))
theorem sp_m_isNarrow (hG : ∀ k, k < 101 → jv 119 k = lN (G k)) (hB : IB G) (hW : ∀ l, l < 9 → jv 122 l = lN (WN G l)) (hQ : ∀ (x : Int32) (b : Bool) jv', FR iv jv iv jv' → ((b = true ∧ nrF G = true) ∨ (b = nrF G ∧ x = b01 (nrP G = true))) → Q (some (.int x)) (mk (fl iv b) jv')) : XM (d + 4) Ym_isNarrow [.ref 118] iv jv Q := by
  have b8 := hB.2.2.2.2.2.2.2.1 2 (by decide)
  simp only [Nat.reduceAdd] at b8
  have g26 : ∀ x y, upj (upj jv 118 6 x) 118 7 y 119 26 = lN (G 26) := fun x y => by rw [upj_ne (by decide), upj_ne (by decide)]; exact hG 26 (by decide)
  have hMX : MX = 9223372036854775807 := rfl
  have l1 : spL (WN G) < 9223372036854775808 := tv_lt _ _
  have t2 := tv_lt (spL (WN G)) (G 26)
  have fr : ∀ x y, FR iv jv iv (upj (upj jv 118 6 x) 118 7 y) := fun x y => FR_t (FR_j _ _ _ _) (FR_j _ _ _ _)
  by_cases hs : spB (WN G) = true
  · obtain ⟨r, b, ht⟩ := sp_m_times_any (spU (WN G)) (lN 10)
    simp (disch := first | assumption | omega) only [e_m_isNarrow, x_m_isNarrow_0, x_m_isNarrow_1, x_m_isNarrow_4, x_m_isNarrow_5, x_m_isNarrow_6, x_m_isNarrow_9, x_m_isNarrow_12, x_m_isNarrow_15, x_m_isNarrow_16, x_m_isNarrow_17, x_m_isNarrow_20, x_m_isNarrow_21, x_m_isNarrow_24, x_m_isNarrow_26, x_m_isNarrow_27, x_m_isNarrow_30, x_m_isNarrow_31, x_m_isNarrow_34, x_m_isNarrow_35, x_m_isNarrow_38, x_m_isNarrow_39, sp_m_spread hW (WN_lt hB), XK_s, XK_n, upj_nk (show (6 : Nat) ≠ 7 from by decide), upj_at, ht, sp_m_times, g26, q_in, q_tn, true_and, q_add, Nat.reduceAdd, fl_fl, z01, z11, or_true, true_or]
    have hF : nrF G = true := by unfold nrF; rw [hs]; rfl
    have e1 : ((spB (WN G) || b) || tf (spL (WN G)) (G 26)) = true := by rw [hs]; rfl
    rw [e1]
    split
    · exact hQ _ _ _ (fr _ _) (Or.inl ⟨rfl, hF⟩)
    · exact hQ _ _ _ (fr _ _) (Or.inl ⟨rfl, hF⟩)
  · have hs' : spB (WN G) = false := by simpa using hs
    have l2 : spN (WN G) < 9223372036854775808 := by have := spN_le hs'; omega
    have t1 := tv_lt (spN (WN G)) 10
    simp (disch := first | assumption | omega) only [e_m_isNarrow, x_m_isNarrow_0, x_m_isNarrow_1, x_m_isNarrow_4, x_m_isNarrow_5, x_m_isNarrow_6, x_m_isNarrow_9, x_m_isNarrow_12, x_m_isNarrow_15, x_m_isNarrow_16, x_m_isNarrow_17, x_m_isNarrow_20, x_m_isNarrow_21, x_m_isNarrow_24, x_m_isNarrow_26, x_m_isNarrow_27, x_m_isNarrow_30, x_m_isNarrow_31, x_m_isNarrow_34, x_m_isNarrow_35, x_m_isNarrow_38, x_m_isNarrow_39, sp_m_spread hW (WN_lt hB), XK_s, XK_n, upj_nk (show (6 : Nat) ≠ 7 from by decide), upj_at, spU_eq hs', sp_m_times, g26, q_in, q_tn, true_and, q_add, Nat.reduceAdd, fl_fl, z01, z11, or_true, true_or, c_gt, c_le, q_lle, q_llt]
    split
    · rename_i h
      refine hQ _ _ _ (fr _ _) (Or.inr ⟨rfl, ?_⟩)
      rw [b01_f (by simp [nrP]; omega)]
    · rename_i h
      refine hQ _ _ _ (fr _ _) (Or.inr ⟨rfl, ?_⟩)
      rw [b01_t (by simp [nrP]; omega)]
def frB (G : Nat → Nat) (i : Nat) : Bool := !(askB G (G 36)).testBit i && !(G 35).testBit i
def poR (G : Nat → Nat) (bd : Nat) : Nat → Nat → Bool → Bool × Bool
  | 0, _, b => (true, b)
  | n + 1, i, b => if b = true then (true, b) else if frB G i = true then (if bd ≤ (Tn G i).1 then (false, (Tn G i).2) else poR G bd n (i + 1) (Tn G i).2) else poR G bd n (i + 1) b
theorem poR_s (G : Nat → Nat) (bd n i : Nat) (b : Bool) : poR G bd (n + 1) i b = if b = true then (true, b) else if frB G i = true then (if bd ≤ (Tn G i).1 then (false, (Tn G i).2) else poR G bd n (i + 1) (Tn G i).2) else poR G bd n (i + 1) b := rfl
theorem lp_m_isPoor {bd : Nat} (hG : ∀ k, k < 101 → jv 119 k = lN (G k)) (hB : IB G) (hW : ∀ l, l < 9 → jv 122 l = lN (WN G l)) (h5 : iv 118 5 = nI 0) (hbd : bd < 9223372036854775808) : ∀ n i b, i + n = G 29 → XT (d + 5) Ym_isPoor 18 [.ref 118, .long (lN bd), mW, .int (nI i)] [] (fl iv b) jv Q = Q (some (.int (b01 ((poR G bd n i b).1 = true)))) (mk (fl iv (poR G bd n i b).2) jv) := by
  have hb := hB.1
  have g29 := hG 29 (by decide)
  have g35 := hG 35 (by decide)
  have b35 := hB.2.2.1
  have hA := askB_lt (fun k hk => (hB.2.2.2.2.1 k hk).1) _ hB.2.1
  intro n
  induction n with
  | zero =>
    intro i b hi
    obtain rfl : i = G 29 := by omega
    rw [x_m_isPoor_18]
    simp (disch := omega) only [x_m_isPoor_0, x_m_isPoor_1, x_m_isPoor_2, x_m_isPoor_5, x_m_isPoor_6, x_m_isPoor_9, x_m_isPoor_11, x_m_isPoor_12, x_m_isPoor_15, x_m_isPoor_16, x_m_isPoor_17, x_m_isPoor_19, x_m_isPoor_20, x_m_isPoor_21, x_m_isPoor_24, x_m_isPoor_26, x_m_isPoor_27, x_m_isPoor_28, x_m_isPoor_31, x_m_isPoor_32, x_m_isPoor_35, x_m_isPoor_38, x_m_isPoor_39, x_m_isPoor_42, x_m_isPoor_43, x_m_isPoor_44, x_m_isPoor_47, x_m_isPoor_50, x_m_isPoor_51, x_m_isPoor_54, x_m_isPoor_56, x_m_isPoor_57, x_m_isPoor_58, x_m_isPoor_61, x_m_isPoor_64, x_m_isPoor_65, x_m_isPoor_66, x_m_isPoor_69, x_m_isPoor_70, x_m_isPoor_71, x_m_isPoor_74, x_m_isPoor_75, x_m_isPoor_76, x_m_isPoor_79, x_m_isPoor_82, x_m_isPoor_83, q_i2l, q_in, q_tn, true_and, g29, c_ge, c_lt, q_llt, q_lle, Nat.le_refl, if_true, z11, or_true, true_or]
    rfl
  | succ n ih =>
    intro i b hi
    have h4 : ¬ G 29 ≤ i := by omega
    have h5' := Tn_lt G i
    have h9 : i < 8 := by omega
    have h8 := fun b => ih (i + 1) b (by omega)
    rw [x_m_isPoor_18, poR_s]
    by_cases hbb : b = true
    · subst hbb
      simp (disch := first | assumption | omega) only [x_m_isPoor_0, x_m_isPoor_1, x_m_isPoor_2, x_m_isPoor_5, x_m_isPoor_6, x_m_isPoor_9, x_m_isPoor_11, x_m_isPoor_12, x_m_isPoor_15, x_m_isPoor_16, x_m_isPoor_17, x_m_isPoor_19, x_m_isPoor_20, x_m_isPoor_21, x_m_isPoor_24, x_m_isPoor_26, x_m_isPoor_27, x_m_isPoor_28, x_m_isPoor_31, x_m_isPoor_32, x_m_isPoor_35, x_m_isPoor_38, x_m_isPoor_39, x_m_isPoor_42, x_m_isPoor_43, x_m_isPoor_44, x_m_isPoor_47, x_m_isPoor_50, x_m_isPoor_51, x_m_isPoor_54, x_m_isPoor_56, x_m_isPoor_57, x_m_isPoor_58, x_m_isPoor_61, x_m_isPoor_64, x_m_isPoor_65, x_m_isPoor_66, x_m_isPoor_69, x_m_isPoor_70, x_m_isPoor_71, x_m_isPoor_74, x_m_isPoor_75, x_m_isPoor_76, x_m_isPoor_79, x_m_isPoor_82, x_m_isPoor_83, q_i2l, q_in, q_tn, true_and, g29, c_ge, q_lle, h4, if_false, fl_t, upi_at, n10, z11, or_true, true_or, if_true]
      rfl
    · have hbf : b = false := by simpa using hbb
      subst hbf
      simp (disch := first | assumption | omega) only [x_m_isPoor_0, x_m_isPoor_1, x_m_isPoor_2, x_m_isPoor_5, x_m_isPoor_6, x_m_isPoor_9, x_m_isPoor_11, x_m_isPoor_12, x_m_isPoor_15, x_m_isPoor_16, x_m_isPoor_17, x_m_isPoor_19, x_m_isPoor_20, x_m_isPoor_21, x_m_isPoor_24, x_m_isPoor_26, x_m_isPoor_27, x_m_isPoor_28, x_m_isPoor_31, x_m_isPoor_32, x_m_isPoor_35, x_m_isPoor_38, x_m_isPoor_39, x_m_isPoor_42, x_m_isPoor_43, x_m_isPoor_44, x_m_isPoor_47, x_m_isPoor_50, x_m_isPoor_51, x_m_isPoor_54, x_m_isPoor_56, x_m_isPoor_57, x_m_isPoor_58, x_m_isPoor_61, x_m_isPoor_64, x_m_isPoor_65, x_m_isPoor_66, x_m_isPoor_69, x_m_isPoor_70, x_m_isPoor_71, x_m_isPoor_74, x_m_isPoor_75, x_m_isPoor_76, x_m_isPoor_79, x_m_isPoor_82, x_m_isPoor_83, q_i2l, q_in, q_tn, true_and, g29, g35, c_ge, c_lt, q_llt, q_lle, h4, if_false, fl_f, h5, if_true, z11, z01, or_true, true_or, sp_m_asked hG hB, sp_m_has, XK_s, b01_eq0, sp_tellsAll hG hB h9 hW, q_add, Bool.false_eq_true]
      have h80 := h8 false
      rw [fl_f] at h80
      by_cases p1 : (askB G (G 36)).testBit i = true
      · have e : frB G i = false := by unfold frB; rw [p1]; rfl
        simp only [p1, not_true_eq_false, if_false, e, Bool.false_eq_true]
        exact h80
      · by_cases p2 : (G 35).testBit i = true
        · have e : frB G i = false := by unfold frB; rw [p2]; simp
          simp only [p1, p2, not_true_eq_false, not_false_eq_true, if_true, if_false, e, Bool.false_eq_true]
          exact h80
        · have e : frB G i = true := by unfold frB; simp [p1, p2]
          by_cases p3 : bd ≤ (Tn G i).1
          · have p4 : ¬ (Tn G i).1 < bd := by omega
            simp only [p1, p2, p3, p4, not_true_eq_false, not_false_eq_true, if_true, if_false, e, Bool.false_eq_true, true_or, true_and]
            rfl
          · have p4 : (Tn G i).1 < bd := by omega
            simp only [p1, p2, p3, p4, not_true_eq_false, not_false_eq_true, if_true, if_false, e, Bool.false_eq_true, true_or, true_and]
            exact h8 _
def poN (G : Nat → Nat) : Bool × Bool := poR G (tv (An G).1 (G 27)) (G 29) 0 ((An G).2 || tf (An G).1 (G 27))
theorem sp_m_isPoor (hG : ∀ k, k < 101 → jv 119 k = lN (G k)) (hB : IB G) (hW : ∀ l, l < 9 → jv 122 l = lN (WN G l)) (h5 : iv 118 5 = nI 0) : XM (d + 6) Ym_isPoor [.ref 118] iv jv Q = Q (some (.int (b01 ((poN G).1 = true)))) (mk (fl iv (poN G).2) jv) := by
  have b8 := hB.2.2.2.2.2.2.2.1 3 (by decide)
  simp only [Nat.reduceAdd] at b8
  have g27 := hG 27 (by decide)
  have hA := An_lt G
  have t2 := tv_lt (An G).1 (G 27)
  have hl := lp_m_isPoor (d := d) (Q := Q) hG hB hW h5 t2 (G 29) 0 ((An G).2 || tf (An G).1 (G 27)) (by omega)
  simp (disch := first | assumption | omega) only [e_m_isPoor, x_m_isPoor_0, x_m_isPoor_1, x_m_isPoor_2, x_m_isPoor_5, x_m_isPoor_6, x_m_isPoor_9, x_m_isPoor_11, x_m_isPoor_12, x_m_isPoor_15, x_m_isPoor_16, x_m_isPoor_17, x_m_isPoor_19, x_m_isPoor_20, x_m_isPoor_21, x_m_isPoor_24, x_m_isPoor_26, x_m_isPoor_27, x_m_isPoor_28, x_m_isPoor_31, x_m_isPoor_32, x_m_isPoor_35, x_m_isPoor_38, x_m_isPoor_39, x_m_isPoor_42, x_m_isPoor_43, x_m_isPoor_44, x_m_isPoor_47, x_m_isPoor_50, x_m_isPoor_51, x_m_isPoor_54, x_m_isPoor_56, x_m_isPoor_57, x_m_isPoor_58, x_m_isPoor_61, x_m_isPoor_64, x_m_isPoor_65, x_m_isPoor_66, x_m_isPoor_69, x_m_isPoor_70, x_m_isPoor_71, x_m_isPoor_74, x_m_isPoor_75, x_m_isPoor_76, x_m_isPoor_79, x_m_isPoor_82, x_m_isPoor_83, sp_all hB hW, XK_s, q_in, q_tn, true_and, g27, q_add, Nat.reduceAdd, sp_m_times, fl_fl]
  exact hl
end RULE
