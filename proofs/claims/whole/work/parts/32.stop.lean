section STOP
variable {d : Nat} {iv : mI} {jv : mJ} {Q : Option Value → mH → Prop} {G : Nat → Nat} {f : Nat → Nat}
def clR (G : Nat → Nat) (m : Nat) : Nat → Nat → Bool
  | 0, _ => true
  | n + 1, k => decide (mdF (wt G k) 8 = m) && clR G m n (k + 1)
theorem clR_s (G : Nat → Nat) (m n k : Nat) : clR G m (n + 1) k = (decide (mdF (wt G k) 8 = m) && clR G m n (k + 1)) := rfl
theorem ba1 (c : Prop) [Decidable c] : b01 c &&& nI 1 = b01 c := by unfold b01; split <;> rfl
theorem ba0 (c : Prop) [Decidable c] : b01 c &&& nI 0 = nI 0 := by unfold b01; split <;> rfl
theorem lp_m_isClear {m : Nat} {x1 : Int32} (hm : m ≤ 8) (hG : ∀ k, k < 101 → jv 119 k = lN (G k)) (hB : IB G) (hn : nz (wt G 0)) (R : Prop) (b0 : Bool) (hR : ∀ iv' jv', FR iv jv iv' jv' → R = Q (some (.int (b01 (b0 = true)))) (mk iv' jv')) : True := trivial
def clN (G : Nat → Nat) : Bool := decide (G 28 ≤ G 36) && clR G (mdN G) (G 28) (G 36 - G 28)
theorem lp_m_isClear2 {m : Nat} {x1 : Int32} (hm : m ≤ 8) (hG : ∀ k, k < 101 → jv 119 k = lN (G k)) (hB : IB G) (hn : nz (wt G 0)) (b0 : Bool) (hQ : ∀ iv' jv', FR iv jv iv' jv' → Q (some (.int (b01 (b0 = true)))) (mk iv' jv')) : ∀ n k b, k + n = G 36 → (b && clR G m n k) = b0 → ∀ iv1 jv1, FR iv jv iv1 jv1 → XT (d + 5) Ym_isClear 32 [.ref 118, .int x1, .int (nI m), .int (b01 (b = true)), .int (nI k)] [] iv1 jv1 Q := by
  have b36 := hB.2.1
  intro n
  induction n with
  | zero =>
    intro k b hk hb iv1 jv1 hF
    obtain rfl : k = G 36 := by omega
    have hG1 := FR_G hF hG
    rw [show clR G m 0 (G 36) = true from rfl, Bool.and_true] at hb
    subst hb
    rw [x_m_isClear_32]
    simp (disch := first | assumption | omega) only [x_m_isClear_0, x_m_isClear_1, x_m_isClear_3, x_m_isClear_6, x_m_isClear_7, x_m_isClear_8, x_m_isClear_11, x_m_isClear_12, x_m_isClear_15, x_m_isClear_16, x_m_isClear_17, x_m_isClear_18, x_m_isClear_21, x_m_isClear_22, x_m_isClear_23, x_m_isClear_24, x_m_isClear_25, x_m_isClear_28, x_m_isClear_29, x_m_isClear_30, x_m_isClear_34, x_m_isClear_35, x_m_isClear_38, x_m_isClear_41, x_m_isClear_42, x_m_isClear_44, x_m_isClear_47, x_m_isClear_48, x_m_isClear_49, x_m_isClear_52, x_m_isClear_53, x_m_isClear_56, x_m_isClear_57, x_m_isClear_60, x_m_isClear_61, x_m_isClear_62, x_m_isClear_63, x_m_isClear_66, x_m_isClear_69, x_m_isClear_70, sp_m_answers hG1, XK_s, q_le, Nat.le_refl, if_true, b01_ok, true_and]
    exact hQ _ _ hF
  | succ n ih =>
    intro k b hk hb iv1 jv1 hF
    have h4 : ¬ G 36 ≤ k := by omega
    have hG1 := FR_G hF hG
    have hk8 : k ≤ 8 := by omega
    have hf : ∀ l, l < 9 → wt G k l < 9223372036854775808 := fun l hl => wt_lt hB.2.2.2.2.2.1 hk8 hl
    have hw : ∀ l, l < 9 → stW jv1 (wt G k) 9 122 l = lN (wt G k l) := fun l hl => stW_lt hl
    have hmd := mdF_le (wt G k) 8
    have hF2 : FR iv jv (upi iv1 118 5 (nI 0)) (stW jv1 (wt G k) 9) := FR_t hF (FR_weighs _ _ _)
    rw [clR_s, ← Bool.and_assoc] at hb
    have h8 := ih (k + 1) _ (by omega) hb _ _ hF2
    rw [x_m_isClear_32]
    simp (disch := first | assumption | omega) only [x_m_isClear_0, x_m_isClear_1, x_m_isClear_3, x_m_isClear_6, x_m_isClear_7, x_m_isClear_8, x_m_isClear_11, x_m_isClear_12, x_m_isClear_15, x_m_isClear_16, x_m_isClear_17, x_m_isClear_18, x_m_isClear_21, x_m_isClear_22, x_m_isClear_23, x_m_isClear_24, x_m_isClear_25, x_m_isClear_28, x_m_isClear_29, x_m_isClear_30, x_m_isClear_34, x_m_isClear_35, x_m_isClear_38, x_m_isClear_41, x_m_isClear_42, x_m_isClear_44, x_m_isClear_47, x_m_isClear_48, x_m_isClear_49, x_m_isClear_52, x_m_isClear_53, x_m_isClear_56, x_m_isClear_57, x_m_isClear_60, x_m_isClear_61, x_m_isClear_62, x_m_isClear_63, x_m_isClear_66, x_m_isClear_69, x_m_isClear_70, sp_m_answers hG1, XK_s, XK_n, q_le, h4, if_false, sp_m_weighsBy hG1 hB hn, sp_m_modeNow hw hf, q_eq, ba1, ba0, q_add]
    by_cases h : mdF (wt G k) 8 = m
    · simp only [h, decide_true, Bool.and_true, if_true] at h8 ⊢
      exact h8
    · simp only [h, decide_false, Bool.and_false, Bool.false_eq_true, if_false] at h8 ⊢
      exact h8
theorem FR_trans5 {iv jv iv1 jv1} (h : FR iv jv iv1 jv1) : FR iv jv iv1 jv1 := h
theorem sp_m_isClear (hG : ∀ k, k < 101 → jv 119 k = lN (G k)) (hB : IB G) (hn : nz (wt G 0)) (hW : ∀ l, l < 9 → jv 122 l = lN (WN G l)) (hQ : ∀ iv' jv', FR iv jv iv' jv' → Q (some (.int (b01 (clN G = true)))) (mk iv' jv')) : XM (d + 6) Ym_isClear [.ref 118] iv jv Q := by
  have b36 := hB.2.1
  have b8 := hB.2.2.2.2.2.2.2.1 4 (by decide)
  simp only [Nat.reduceAdd] at b8
  have g28 := hG 28 (by decide)
  have hm := mdN_le G
  by_cases h : G 28 ≤ G 36
  · have h' : ¬ G 36 < G 28 := by omega
    have hl := lp_m_isClear2 (d := d) (x1 := nI (G 28)) hm hG hB hn (clN G) hQ (G 28) (G 36 - G 28) true (by omega) (by unfold clN; simp [h]) _ _ (FR_r iv jv)
    rw [b01_t (rfl : true = true)] at hl
    simp (disch := first | assumption | omega) only [e_m_isClear, x_m_isClear_0, x_m_isClear_1, x_m_isClear_3, x_m_isClear_6, x_m_isClear_7, x_m_isClear_8, x_m_isClear_11, x_m_isClear_12, x_m_isClear_15, x_m_isClear_16, x_m_isClear_17, x_m_isClear_18, x_m_isClear_21, x_m_isClear_22, x_m_isClear_23, x_m_isClear_24, x_m_isClear_25, x_m_isClear_28, x_m_isClear_29, x_m_isClear_30, x_m_isClear_34, x_m_isClear_35, x_m_isClear_38, x_m_isClear_41, x_m_isClear_42, x_m_isClear_44, x_m_isClear_47, x_m_isClear_48, x_m_isClear_49, x_m_isClear_52, x_m_isClear_53, x_m_isClear_56, x_m_isClear_57, x_m_isClear_60, x_m_isClear_61, x_m_isClear_62, x_m_isClear_63, x_m_isClear_66, x_m_isClear_69, x_m_isClear_70, sp_m_get, g28, q_l2i, XK_s, sp_m_answers hG, q_le, q_lt, h, h', if_true, if_false, sp_modeNow hB hW, q_sub]
    exact hl
  · have h' : G 36 < G 28 := by omega
    have e : clN G = false := by unfold clN; simp [h]
    rw [e] at hQ
    simp (disch := first | assumption | omega) only [e_m_isClear, x_m_isClear_0, x_m_isClear_1, x_m_isClear_3, x_m_isClear_6, x_m_isClear_7, x_m_isClear_8, x_m_isClear_11, x_m_isClear_12, x_m_isClear_15, x_m_isClear_16, x_m_isClear_17, x_m_isClear_18, x_m_isClear_21, x_m_isClear_22, x_m_isClear_23, x_m_isClear_24, x_m_isClear_25, x_m_isClear_28, x_m_isClear_29, x_m_isClear_30, x_m_isClear_34, x_m_isClear_35, x_m_isClear_38, x_m_isClear_41, x_m_isClear_42, x_m_isClear_44, x_m_isClear_47, x_m_isClear_48, x_m_isClear_49, x_m_isClear_52, x_m_isClear_53, x_m_isClear_56, x_m_isClear_57, x_m_isClear_60, x_m_isClear_61, x_m_isClear_62, x_m_isClear_63, x_m_isClear_66, x_m_isClear_69, x_m_isClear_70, sp_m_get, g28, q_l2i, XK_s, sp_m_answers hG, q_le, q_lt, h, h', if_true, if_false, z01, true_or, true_and]
    exact hQ _ _ (FR_r _ _)
def rlV (G : Nat → Nat) : Nat → Int32
  | 0 => b01 (G 24 ≤ G 36)
  | 1 => if suF G = true then -7 else b01 (suP G = true)
  | 2 => if nrF G = true then -7 else b01 (nrP G = true)
  | 3 => if (poN G).2 = true then -7 else b01 ((poN G).1 = true)
  | _ => b01 (clN G = true)
theorem sp_ruleNow {r : Nat} (hr : r < 5) (hG : ∀ k, k < 101 → jv 119 k = lN (G k)) (hB : IB G) (hn : nz (wt G 0)) (hQ : ∀ iv' jv', FR iv jv iv' jv' → Q (some (.int (rlV G r))) (mk iv' jv')) : XM (d + 7) Ym_ruleNow [.ref 118, .int (nI r)] iv jv Q := by
  have b36 := hB.2.1
  have b8 := hB.2.2.2.2.2.2.2.1 0 (by decide)
  simp only [Nat.reduceAdd] at b8
  have hG2 : ∀ k, k < 101 → stW jv (WN G) 9 119 k = lN (G k) := ne119 hG
  have hW : ∀ l, l < 9 → stW jv (WN G) 9 122 l = lN (WN G l) := fun l hl => stW_lt hl
  have h5 : upi iv 118 5 (nI 0) 118 5 = nI 0 := upi_at _ _ _ _
  have g24 := hG2 24 (by decide)
  have fr : ∀ b, FR iv jv (fl (upi iv 118 5 (nI 0)) b) (stW jv (WN G) 9) := fun b => FR_t (FR_5 iv jv _) (FR_t (FR_fl _ _ b) (FR_w _ _ _ _))
  have e5 : ∀ b, fl (upi iv 118 5 (nI 0)) b 118 5 = if b = true then nI 1 else nI 0 := fun b => fl_5 h5
  match r, hr with
  | 0, _ =>
    have e : rlV G 0 = b01 (G 24 ≤ G 36) := rfl
    rw [e] at hQ
    have h1 := hQ _ _ (fr false)
    rw [fl_f] at h1
    simp (disch := first | assumption | omega) only [e_m_ruleNow, x_m_ruleNow_0, x_m_ruleNow_1, x_m_ruleNow_4, x_m_ruleNow_5_0, x_m_ruleNow_5_1, x_m_ruleNow_5_2, x_m_ruleNow_5_3, x_m_ruleNow_36, x_m_ruleNow_37, x_m_ruleNow_40, x_m_ruleNow_41, x_m_ruleNow_42, x_m_ruleNow_45, x_m_ruleNow_47, x_m_ruleNow_48, x_m_ruleNow_49, x_m_ruleNow_52, x_m_ruleNow_53, x_m_ruleNow_56, x_m_ruleNow_57, x_m_ruleNow_58, x_m_ruleNow_59, x_m_ruleNow_62, x_m_ruleNow_63, x_m_ruleNow_66, x_m_ruleNow_67, x_m_ruleNow_70, x_m_ruleNow_71, x_m_ruleNow_74, x_m_ruleNow_75, x_m_ruleNow_78, x_m_ruleNow_79, x_m_ruleNow_82, x_m_ruleNow_83, x_m_ruleNow_86, x_m_ruleNow_89, x_m_ruleNow_90, x_m_ruleNow_93, x_m_ruleNow_94, x_m_ruleNow_95, x_m_ruleNow_96, x_m_ruleNow_99, x_m_ruleNow_102, x_m_ruleNow_104, x_m_ruleNow_107, x_m_ruleNow_108, x_m_ruleNow_111, x_m_ruleNow_112, x_m_ruleNow_115, x_m_ruleNow_116, sp_weighs hG hB hn, XK_n, XK_s, sp_m_answers hG2, q_i2l, q_in, q_tn, true_and, g24, c_lt, c_ge, q_llt, q_lle]
    unfold b01 at h1
    by_cases h : G 24 ≤ G 36
    · have h' : ¬ G 36 < G 24 := by omega
      simp only [h, h', if_true, if_false] at h1 ⊢
      exact h1
    · have h' : G 36 < G 24 := by omega
      simp only [h, h', if_true, if_false] at h1 ⊢
      exact h1
  | 1, _ =>
    have e : rlV G 1 = if suF G = true then -7 else b01 (suP G = true) := rfl
    rw [e] at hQ
    have h1 := hQ _ _ (fr (suF G))
    simp (disch := first | assumption | omega) only [e_m_ruleNow, x_m_ruleNow_0, x_m_ruleNow_1, x_m_ruleNow_4, x_m_ruleNow_5_0, x_m_ruleNow_5_1, x_m_ruleNow_5_2, x_m_ruleNow_5_3, x_m_ruleNow_36, x_m_ruleNow_37, x_m_ruleNow_40, x_m_ruleNow_41, x_m_ruleNow_42, x_m_ruleNow_45, x_m_ruleNow_47, x_m_ruleNow_48, x_m_ruleNow_49, x_m_ruleNow_52, x_m_ruleNow_53, x_m_ruleNow_56, x_m_ruleNow_57, x_m_ruleNow_58, x_m_ruleNow_59, x_m_ruleNow_62, x_m_ruleNow_63, x_m_ruleNow_66, x_m_ruleNow_67, x_m_ruleNow_70, x_m_ruleNow_71, x_m_ruleNow_74, x_m_ruleNow_75, x_m_ruleNow_78, x_m_ruleNow_79, x_m_ruleNow_82, x_m_ruleNow_83, x_m_ruleNow_86, x_m_ruleNow_89, x_m_ruleNow_90, x_m_ruleNow_93, x_m_ruleNow_94, x_m_ruleNow_95, x_m_ruleNow_96, x_m_ruleNow_99, x_m_ruleNow_102, x_m_ruleNow_104, x_m_ruleNow_107, x_m_ruleNow_108, x_m_ruleNow_111, x_m_ruleNow_112, x_m_ruleNow_115, x_m_ruleNow_116, sp_weighs hG hB hn, XK_n, XK_s, sp_m_isSure hG2 hB hW, e5]
    by_cases h : suF G = true
    · simp only [h, n10, if_true, if_false] at h1 ⊢
      exact h1
    · have h' : suF G = false := by simpa using h
      simp only [h', Bool.false_eq_true, b01_eq0, if_true, if_false] at h1 ⊢
      unfold b01 at h1
      by_cases h2 : suP G = true <;> simp only [h2, if_true, if_false, not_true_eq_false, not_false_eq_true, Bool.false_eq_true] at h1 ⊢ <;> exact h1
  | 2, _ =>
    have e : rlV G 2 = if nrF G = true then -7 else b01 (nrP G = true) := rfl
    rw [e] at hQ
    simp (disch := first | assumption | omega) only [e_m_ruleNow, x_m_ruleNow_0, x_m_ruleNow_1, x_m_ruleNow_4, x_m_ruleNow_5_0, x_m_ruleNow_5_1, x_m_ruleNow_5_2, x_m_ruleNow_5_3, x_m_ruleNow_36, x_m_ruleNow_37, x_m_ruleNow_40, x_m_ruleNow_41, x_m_ruleNow_42, x_m_ruleNow_45, x_m_ruleNow_47, x_m_ruleNow_48, x_m_ruleNow_49, x_m_ruleNow_52, x_m_ruleNow_53, x_m_ruleNow_56, x_m_ruleNow_57, x_m_ruleNow_58, x_m_ruleNow_59, x_m_ruleNow_62, x_m_ruleNow_63, x_m_ruleNow_66, x_m_ruleNow_67, x_m_ruleNow_70, x_m_ruleNow_71, x_m_ruleNow_74, x_m_ruleNow_75, x_m_ruleNow_78, x_m_ruleNow_79, x_m_ruleNow_82, x_m_ruleNow_83, x_m_ruleNow_86, x_m_ruleNow_89, x_m_ruleNow_90, x_m_ruleNow_93, x_m_ruleNow_94, x_m_ruleNow_95, x_m_ruleNow_96, x_m_ruleNow_99, x_m_ruleNow_102, x_m_ruleNow_104, x_m_ruleNow_107, x_m_ruleNow_108, x_m_ruleNow_111, x_m_ruleNow_112, x_m_ruleNow_115, x_m_ruleNow_116, sp_weighs hG hB hn, XK_n, XK_s]
    refine sp_m_isNarrow hG2 hB hW (fun x b jv' hF hx => ?_)
    have fr2 : FR iv jv (fl (upi iv 118 5 (nI 0)) b) jv' := FR_t (fr false) (FR_t hF (FR_fl _ _ b))
    have h1 := hQ _ _ fr2
    simp (disch := first | assumption | omega) only [XK_s, x_m_ruleNow_0, x_m_ruleNow_1, x_m_ruleNow_4, x_m_ruleNow_5_0, x_m_ruleNow_5_1, x_m_ruleNow_5_2, x_m_ruleNow_5_3, x_m_ruleNow_36, x_m_ruleNow_37, x_m_ruleNow_40, x_m_ruleNow_41, x_m_ruleNow_42, x_m_ruleNow_45, x_m_ruleNow_47, x_m_ruleNow_48, x_m_ruleNow_49, x_m_ruleNow_52, x_m_ruleNow_53, x_m_ruleNow_56, x_m_ruleNow_57, x_m_ruleNow_58, x_m_ruleNow_59, x_m_ruleNow_62, x_m_ruleNow_63, x_m_ruleNow_66, x_m_ruleNow_67, x_m_ruleNow_70, x_m_ruleNow_71, x_m_ruleNow_74, x_m_ruleNow_75, x_m_ruleNow_78, x_m_ruleNow_79, x_m_ruleNow_82, x_m_ruleNow_83, x_m_ruleNow_86, x_m_ruleNow_89, x_m_ruleNow_90, x_m_ruleNow_93, x_m_ruleNow_94, x_m_ruleNow_95, x_m_ruleNow_96, x_m_ruleNow_99, x_m_ruleNow_102, x_m_ruleNow_104, x_m_ruleNow_107, x_m_ruleNow_108, x_m_ruleNow_111, x_m_ruleNow_112, x_m_ruleNow_115, x_m_ruleNow_116, e5]
    rcases hx with ⟨h3, h4⟩ | ⟨h3, h4⟩
    · subst h3
      simp only [h4, n10, if_true, if_false] at h1 ⊢
      exact h1
    · subst h3
      subst h4
      by_cases h : nrF G = true
      · simp only [h, n10, if_true, if_false] at h1 ⊢
        exact h1
      · have h' : nrF G = false := by simpa using h
        simp only [h', Bool.false_eq_true, b01_eq0, if_true, if_false] at h1 ⊢
        unfold b01 at h1
        by_cases h2 : nrP G = true <;> simp only [h2, if_true, if_false, not_true_eq_false, not_false_eq_true, Bool.false_eq_true] at h1 ⊢ <;> exact h1
  | 3, _ =>
    have e : rlV G 3 = if (poN G).2 = true then -7 else b01 ((poN G).1 = true) := rfl
    rw [e] at hQ
    have h1 := hQ _ _ (fr (poN G).2)
    simp (disch := first | assumption | omega) only [e_m_ruleNow, x_m_ruleNow_0, x_m_ruleNow_1, x_m_ruleNow_4, x_m_ruleNow_5_0, x_m_ruleNow_5_1, x_m_ruleNow_5_2, x_m_ruleNow_5_3, x_m_ruleNow_36, x_m_ruleNow_37, x_m_ruleNow_40, x_m_ruleNow_41, x_m_ruleNow_42, x_m_ruleNow_45, x_m_ruleNow_47, x_m_ruleNow_48, x_m_ruleNow_49, x_m_ruleNow_52, x_m_ruleNow_53, x_m_ruleNow_56, x_m_ruleNow_57, x_m_ruleNow_58, x_m_ruleNow_59, x_m_ruleNow_62, x_m_ruleNow_63, x_m_ruleNow_66, x_m_ruleNow_67, x_m_ruleNow_70, x_m_ruleNow_71, x_m_ruleNow_74, x_m_ruleNow_75, x_m_ruleNow_78, x_m_ruleNow_79, x_m_ruleNow_82, x_m_ruleNow_83, x_m_ruleNow_86, x_m_ruleNow_89, x_m_ruleNow_90, x_m_ruleNow_93, x_m_ruleNow_94, x_m_ruleNow_95, x_m_ruleNow_96, x_m_ruleNow_99, x_m_ruleNow_102, x_m_ruleNow_104, x_m_ruleNow_107, x_m_ruleNow_108, x_m_ruleNow_111, x_m_ruleNow_112, x_m_ruleNow_115, x_m_ruleNow_116, sp_weighs hG hB hn, XK_n, XK_s, sp_m_isPoor hG2 hB hW, e5]
    by_cases h : (poN G).2 = true
    · simp only [h, n10, if_true, if_false] at h1 ⊢
      exact h1
    · have h' : (poN G).2 = false := by simpa using h
      simp only [h', Bool.false_eq_true, b01_eq0, if_true, if_false] at h1 ⊢
      unfold b01 at h1
      by_cases h2 : (poN G).1 = true <;> simp only [h2, if_true, if_false, not_true_eq_false, not_false_eq_true, Bool.false_eq_true] at h1 ⊢ <;> exact h1
  | 4, _ =>
    have e : rlV G 4 = b01 (clN G = true) := rfl
    rw [e] at hQ
    have hd : (nI 4).toInt < 0 ∨ 3 < (nI 4).toInt := by decide
    simp (disch := first | assumption | omega) only [e_m_ruleNow, x_m_ruleNow_0, x_m_ruleNow_1, x_m_ruleNow_4, x_m_ruleNow_5_0, x_m_ruleNow_5_1, x_m_ruleNow_5_2, x_m_ruleNow_5_3, x_m_ruleNow_36, x_m_ruleNow_37, x_m_ruleNow_40, x_m_ruleNow_41, x_m_ruleNow_42, x_m_ruleNow_45, x_m_ruleNow_47, x_m_ruleNow_48, x_m_ruleNow_49, x_m_ruleNow_52, x_m_ruleNow_53, x_m_ruleNow_56, x_m_ruleNow_57, x_m_ruleNow_58, x_m_ruleNow_59, x_m_ruleNow_62, x_m_ruleNow_63, x_m_ruleNow_66, x_m_ruleNow_67, x_m_ruleNow_70, x_m_ruleNow_71, x_m_ruleNow_74, x_m_ruleNow_75, x_m_ruleNow_78, x_m_ruleNow_79, x_m_ruleNow_82, x_m_ruleNow_83, x_m_ruleNow_86, x_m_ruleNow_89, x_m_ruleNow_90, x_m_ruleNow_93, x_m_ruleNow_94, x_m_ruleNow_95, x_m_ruleNow_96, x_m_ruleNow_99, x_m_ruleNow_102, x_m_ruleNow_104, x_m_ruleNow_107, x_m_ruleNow_108, x_m_ruleNow_111, x_m_ruleNow_112, x_m_ruleNow_115, x_m_ruleNow_116, sp_weighs hG hB hn, XK_n, XK_s]
    rw [x_m_ruleNow_5_d hd]
    simp (disch := first | assumption | omega) only [x_m_ruleNow_0, x_m_ruleNow_1, x_m_ruleNow_4, x_m_ruleNow_5_0, x_m_ruleNow_5_1, x_m_ruleNow_5_2, x_m_ruleNow_5_3, x_m_ruleNow_36, x_m_ruleNow_37, x_m_ruleNow_40, x_m_ruleNow_41, x_m_ruleNow_42, x_m_ruleNow_45, x_m_ruleNow_47, x_m_ruleNow_48, x_m_ruleNow_49, x_m_ruleNow_52, x_m_ruleNow_53, x_m_ruleNow_56, x_m_ruleNow_57, x_m_ruleNow_58, x_m_ruleNow_59, x_m_ruleNow_62, x_m_ruleNow_63, x_m_ruleNow_66, x_m_ruleNow_67, x_m_ruleNow_70, x_m_ruleNow_71, x_m_ruleNow_74, x_m_ruleNow_75, x_m_ruleNow_78, x_m_ruleNow_79, x_m_ruleNow_82, x_m_ruleNow_83, x_m_ruleNow_86, x_m_ruleNow_89, x_m_ruleNow_90, x_m_ruleNow_93, x_m_ruleNow_94, x_m_ruleNow_95, x_m_ruleNow_96, x_m_ruleNow_99, x_m_ruleNow_102, x_m_ruleNow_104, x_m_ruleNow_107, x_m_ruleNow_108, x_m_ruleNow_111, x_m_ruleNow_112, x_m_ruleNow_115, x_m_ruleNow_116]
    refine sp_m_isClear hG2 hB hn hW (fun iv' jv' hF => ?_)
    have h1 := hQ _ _ (FR_t (fr false) hF)
    simp (disch := first | assumption | omega) only [XK_s, x_m_ruleNow_0, x_m_ruleNow_1, x_m_ruleNow_4, x_m_ruleNow_5_0, x_m_ruleNow_5_1, x_m_ruleNow_5_2, x_m_ruleNow_5_3, x_m_ruleNow_36, x_m_ruleNow_37, x_m_ruleNow_40, x_m_ruleNow_41, x_m_ruleNow_42, x_m_ruleNow_45, x_m_ruleNow_47, x_m_ruleNow_48, x_m_ruleNow_49, x_m_ruleNow_52, x_m_ruleNow_53, x_m_ruleNow_56, x_m_ruleNow_57, x_m_ruleNow_58, x_m_ruleNow_59, x_m_ruleNow_62, x_m_ruleNow_63, x_m_ruleNow_66, x_m_ruleNow_67, x_m_ruleNow_70, x_m_ruleNow_71, x_m_ruleNow_74, x_m_ruleNow_75, x_m_ruleNow_78, x_m_ruleNow_79, x_m_ruleNow_82, x_m_ruleNow_83, x_m_ruleNow_86, x_m_ruleNow_89, x_m_ruleNow_90, x_m_ruleNow_93, x_m_ruleNow_94, x_m_ruleNow_95, x_m_ruleNow_96, x_m_ruleNow_99, x_m_ruleNow_102, x_m_ruleNow_104, x_m_ruleNow_107, x_m_ruleNow_108, x_m_ruleNow_111, x_m_ruleNow_112, x_m_ruleNow_115, x_m_ruleNow_116, b01_eq0]
    unfold b01 at h1
    by_cases h2 : clN G = true <;> simp only [h2, if_true, if_false, not_true_eq_false, not_false_eq_true, Bool.false_eq_true] at h1 ⊢ <;> exact h1
theorem sp_m_says {r : Nat} (hr : r < 5) (hG : ∀ k, k < 101 → jv 119 k = lN (G k)) (hB : IB G) (hn : nz (wt G 0)) (hQ : ∀ iv' jv', FR iv jv iv' jv' → Q (some (.int (if G 34 = 1 then rlV G r else -3))) (mk iv' jv')) : XM (d + 8) Ym_says [.ref 118, .int (nI r)] iv jv Q := by
  obtain ⟨b1, b2, b3, b4, b5, b6, b7, b8, b9, b10, b11, b12, b13⟩ := id hB
  have g34 := hG 34 (by decide)
  have hr4 : r ≤ 4 := by omega
  simp (disch := first | assumption | omega) only [e_m_says, x_m_says_0, x_m_says_1, x_m_says_2, x_m_says_3, x_m_says_6, x_m_says_9, x_m_says_12, x_m_says_14, x_m_says_15, x_m_says_16, x_m_says_19, x_m_says_22, x_m_says_23, x_m_says_24, x_m_says_27, x_m_says_30, x_m_says_32, q_i2l, sp_isInN, sp_m_isOn g34 b13, XK_s, b01_eq0, Nat.zero_le, hr4, true_and, not_true_eq_false, if_false]
  by_cases h : G 34 = 1
  · simp only [h, not_true_eq_false, if_false, if_true] at hQ ⊢
    refine sp_ruleNow hr hG hB hn (fun iv' jv' hF => ?_)
    simp only [XK_s, x_m_says_0, x_m_says_1, x_m_says_2, x_m_says_3, x_m_says_6, x_m_says_9, x_m_says_12, x_m_says_14, x_m_says_15, x_m_says_16, x_m_says_19, x_m_says_22, x_m_says_23, x_m_says_24, x_m_says_27, x_m_says_30, x_m_says_32]
    exact hQ _ _ hF
  · simp only [h, not_false_eq_true, if_false, if_true] at hQ ⊢
    exact hQ _ _ (FR_r _ _)
theorem sp_m_says_bad {x : Int32} (h : ¬ (0 ≤ x.toInt ∧ x.toInt ≤ 4)) : XM (d + 8) Ym_says [.ref 118, .int x] iv jv Q = Q (some (.int (-2))) (mk iv jv) := by
  have p1 : ¬ (((0 : Nat) : Int) ≤ x.toInt ∧ x.toInt ≤ ((4 : Nat) : Int)) := h
  simp (disch := first | assumption | omega) only [e_m_says, x_m_says_0, x_m_says_1, x_m_says_2, x_m_says_3, x_m_says_6, x_m_says_9, x_m_says_12, x_m_says_14, x_m_says_15, x_m_says_16, x_m_says_19, x_m_says_22, x_m_says_23, x_m_says_24, x_m_says_27, x_m_says_30, x_m_says_32, sp_isInI, XK_s, b01_eq0, p1, not_false_eq_true, if_true]
def stR (G : Nat → Nat) : Nat → Nat → Int32
  | 0, _ => nI 0
  | n + 1, r => if (G 32).testBit r = true then (if rlV G r = nI 0 then stR G n (r + 1) else rlV G r) else stR G n (r + 1)
theorem stR_s (G : Nat → Nat) (n r : Nat) : stR G (n + 1) r = if (G 32).testBit r = true then (if rlV G r = nI 0 then stR G n (r + 1) else rlV G r) else stR G n (r + 1) := rfl
def inK (G : Nat → Nat) (a : Nat) : Nat := inA G (askB G (G 36)) a (G 29)
def stV (G : Nat → Nat) : Int32 := if inK G 0 < G 18 ∨ inK G 1 < G 19 ∨ inK G 2 < G 20 then nI 0 else if G 30 ≤ G 36 then nI 1 else stR G 5 0
theorem lp_m_stops (hG : ∀ k, k < 101 → jv 119 k = lN (G k)) (hB : IB G) (hn : nz (wt G 0)) : ∀ n r, r + n = 5 → (∀ iv' jv', FR iv jv iv' jv' → Q (some (.int (stR G n r))) (mk iv' jv')) → ∀ iv1 jv1, FR iv jv iv1 jv1 → ∀ u2, XT (d + 7) Ym_stopsNow 58 [.ref 118, .int (nI r), u2] [] iv1 jv1 Q := by
  have b11 := hB.2.2.2.2.2.2.2.2.2.2.1
  intro n
  induction n with
  | zero =>
    intro r hr hQ iv1 jv1 hF u2
    obtain rfl : r = 5 := by omega
    rw [x_m_stopsNow_58]
    simp (disch := first | assumption | omega) only [x_m_stopsNow_0, x_m_stopsNow_1, x_m_stopsNow_3, x_m_stopsNow_4, x_m_stopsNow_7, x_m_stopsNow_8, x_m_stopsNow_9, x_m_stopsNow_12, x_m_stopsNow_13, x_m_stopsNow_16, x_m_stopsNow_17, x_m_stopsNow_18, x_m_stopsNow_21, x_m_stopsNow_23, x_m_stopsNow_24, x_m_stopsNow_25, x_m_stopsNow_26, x_m_stopsNow_27, x_m_stopsNow_30, x_m_stopsNow_31, x_m_stopsNow_32, x_m_stopsNow_35, x_m_stopsNow_38, x_m_stopsNow_39, x_m_stopsNow_42, x_m_stopsNow_43, x_m_stopsNow_44, x_m_stopsNow_47, x_m_stopsNow_49, x_m_stopsNow_50, x_m_stopsNow_51, x_m_stopsNow_54, x_m_stopsNow_55, x_m_stopsNow_56, x_m_stopsNow_57, x_m_stopsNow_59, x_m_stopsNow_60, x_m_stopsNow_63, x_m_stopsNow_64, x_m_stopsNow_67, x_m_stopsNow_69, x_m_stopsNow_70, x_m_stopsNow_71, x_m_stopsNow_74, x_m_stopsNow_77, x_m_stopsNow_78, x_m_stopsNow_79, x_m_stopsNow_82, x_m_stopsNow_85, x_m_stopsNow_86, x_m_stopsNow_87, x_m_stopsNow_88, x_m_stopsNow_91, x_m_stopsNow_92, x_m_stopsNow_93, x_m_stopsNow_96, x_m_stopsNow_99, x_m_stopsNow_100, q_le, Nat.le_refl, if_true]
    exact hQ _ _ hF
  | succ n ih =>
    intro r hr hQ iv1 jv1 hF u2
    have h4 : ¬ 5 ≤ r := by omega
    have hG1 := FR_G hF hG
    have g32 := hG1 32 (by decide)
    rw [stR_s] at hQ
    rw [x_m_stopsNow_58]
    simp (disch := first | assumption | omega) only [x_m_stopsNow_0, x_m_stopsNow_1, x_m_stopsNow_3, x_m_stopsNow_4, x_m_stopsNow_7, x_m_stopsNow_8, x_m_stopsNow_9, x_m_stopsNow_12, x_m_stopsNow_13, x_m_stopsNow_16, x_m_stopsNow_17, x_m_stopsNow_18, x_m_stopsNow_21, x_m_stopsNow_23, x_m_stopsNow_24, x_m_stopsNow_25, x_m_stopsNow_26, x_m_stopsNow_27, x_m_stopsNow_30, x_m_stopsNow_31, x_m_stopsNow_32, x_m_stopsNow_35, x_m_stopsNow_38, x_m_stopsNow_39, x_m_stopsNow_42, x_m_stopsNow_43, x_m_stopsNow_44, x_m_stopsNow_47, x_m_stopsNow_49, x_m_stopsNow_50, x_m_stopsNow_51, x_m_stopsNow_54, x_m_stopsNow_55, x_m_stopsNow_56, x_m_stopsNow_57, x_m_stopsNow_59, x_m_stopsNow_60, x_m_stopsNow_63, x_m_stopsNow_64, x_m_stopsNow_67, x_m_stopsNow_69, x_m_stopsNow_70, x_m_stopsNow_71, x_m_stopsNow_74, x_m_stopsNow_77, x_m_stopsNow_78, x_m_stopsNow_79, x_m_stopsNow_82, x_m_stopsNow_85, x_m_stopsNow_86, x_m_stopsNow_87, x_m_stopsNow_88, x_m_stopsNow_91, x_m_stopsNow_92, x_m_stopsNow_93, x_m_stopsNow_96, x_m_stopsNow_99, x_m_stopsNow_100, q_le, h4, if_false, q_in, q_tn, true_and, g32, sp_m_has, XK_s, b01_eq0]
    by_cases h : (G 32).testBit r = true
    · rw [if_pos h] at hQ
      simp only [h, not_true_eq_false, if_false]
      refine sp_ruleNow (by omega) hG1 hB hn (fun iv' jv' hF2 => ?_)
      have hF3 := FR_t hF hF2
      simp (disch := first | assumption | omega) only [XK_s, x_m_stopsNow_0, x_m_stopsNow_1, x_m_stopsNow_3, x_m_stopsNow_4, x_m_stopsNow_7, x_m_stopsNow_8, x_m_stopsNow_9, x_m_stopsNow_12, x_m_stopsNow_13, x_m_stopsNow_16, x_m_stopsNow_17, x_m_stopsNow_18, x_m_stopsNow_21, x_m_stopsNow_23, x_m_stopsNow_24, x_m_stopsNow_25, x_m_stopsNow_26, x_m_stopsNow_27, x_m_stopsNow_30, x_m_stopsNow_31, x_m_stopsNow_32, x_m_stopsNow_35, x_m_stopsNow_38, x_m_stopsNow_39, x_m_stopsNow_42, x_m_stopsNow_43, x_m_stopsNow_44, x_m_stopsNow_47, x_m_stopsNow_49, x_m_stopsNow_50, x_m_stopsNow_51, x_m_stopsNow_54, x_m_stopsNow_55, x_m_stopsNow_56, x_m_stopsNow_57, x_m_stopsNow_59, x_m_stopsNow_60, x_m_stopsNow_63, x_m_stopsNow_64, x_m_stopsNow_67, x_m_stopsNow_69, x_m_stopsNow_70, x_m_stopsNow_71, x_m_stopsNow_74, x_m_stopsNow_77, x_m_stopsNow_78, x_m_stopsNow_79, x_m_stopsNow_82, x_m_stopsNow_85, x_m_stopsNow_86, x_m_stopsNow_87, x_m_stopsNow_88, x_m_stopsNow_91, x_m_stopsNow_92, x_m_stopsNow_93, x_m_stopsNow_96, x_m_stopsNow_99, x_m_stopsNow_100, q_add]
      by_cases h2 : rlV G r = nI 0
      · simp only [h2, if_true] at hQ ⊢
        exact ih (r + 1) (by omega) hQ _ _ hF3 _
      · simp only [h2, if_false] at hQ ⊢
        exact hQ _ _ hF3
    · rw [if_neg h] at hQ
      simp (disch := first | assumption | omega) only [h, not_false_eq_true, if_true, q_add]
      exact ih (r + 1) (by omega) hQ _ _ hF _
theorem st_a {a : Nat} (ha : a < 3) (hG : ∀ k, k < 101 → jv 119 k = lN (G k)) (hB : IB G) : XT (d + 7) Ym_stopsNow 2 [.ref 118, .int (nI a), mU] [] iv jv Q = if G (18 + a) ≤ inK G a then XT (d + 7) Ym_stopsNow 2 [.ref 118, .int (nI (a + 1)), mU] [] iv jv Q else Q (some (.int (nI 0))) (mk iv jv) := by
  have hA := askB_lt (fun k hk => (hB.2.2.2.2.1 k hk).1) _ hB.2.1
  have k0 := hB.2.2.2.2.2.2.1 a ha
  have i0 := inA_le G (askB G (G 36)) a (G 29)
  have b1 := hB.1
  have g18 := hG (18 + a) (by omega)
  have h4 : ¬ 3 ≤ a := by omega
  rw [x_m_stopsNow_2]
  simp (disch := first | assumption | omega) only [x_m_stopsNow_0, x_m_stopsNow_1, x_m_stopsNow_3, x_m_stopsNow_4, x_m_stopsNow_7, x_m_stopsNow_8, x_m_stopsNow_9, x_m_stopsNow_12, x_m_stopsNow_13, x_m_stopsNow_16, x_m_stopsNow_17, x_m_stopsNow_18, x_m_stopsNow_21, x_m_stopsNow_23, x_m_stopsNow_24, x_m_stopsNow_25, x_m_stopsNow_26, x_m_stopsNow_27, x_m_stopsNow_30, x_m_stopsNow_31, x_m_stopsNow_32, x_m_stopsNow_35, x_m_stopsNow_38, x_m_stopsNow_39, x_m_stopsNow_42, x_m_stopsNow_43, x_m_stopsNow_44, x_m_stopsNow_47, x_m_stopsNow_49, x_m_stopsNow_50, x_m_stopsNow_51, x_m_stopsNow_54, x_m_stopsNow_55, x_m_stopsNow_56, x_m_stopsNow_57, x_m_stopsNow_59, x_m_stopsNow_60, x_m_stopsNow_63, x_m_stopsNow_64, x_m_stopsNow_67, x_m_stopsNow_69, x_m_stopsNow_70, x_m_stopsNow_71, x_m_stopsNow_74, x_m_stopsNow_77, x_m_stopsNow_78, x_m_stopsNow_79, x_m_stopsNow_82, x_m_stopsNow_85, x_m_stopsNow_86, x_m_stopsNow_87, x_m_stopsNow_88, x_m_stopsNow_91, x_m_stopsNow_92, x_m_stopsNow_93, x_m_stopsNow_96, x_m_stopsNow_99, x_m_stopsNow_100, q_le, h4, if_false, q_add, q_in, q_tn, true_and, sp_m_asked hG hB, sp_m_inArea hG hB, XK_s, q_i2l, g18, c_ge, q_lle]
  rfl
theorem st_b (hG : ∀ k, k < 101 → jv 119 k = lN (G k)) (hB : IB G) : XT (d + 7) Ym_stopsNow 2 [.ref 118, .int (nI 3), mU] [] iv jv Q = if G 36 < G 30 then XT (d + 7) Ym_stopsNow 58 [.ref 118, .int (nI 0), mU] [] iv jv Q else Q (some (.int (nI 1))) (mk iv jv) := by
  obtain ⟨b1, b2, b3, b4, b5, b6, b7, b8, b9, b10, b11, b12, b13⟩ := id hB
  have g30 := hG 30 (by decide)
  rw [x_m_stopsNow_2]
  simp (disch := first | assumption | omega) only [x_m_stopsNow_0, x_m_stopsNow_1, x_m_stopsNow_3, x_m_stopsNow_4, x_m_stopsNow_7, x_m_stopsNow_8, x_m_stopsNow_9, x_m_stopsNow_12, x_m_stopsNow_13, x_m_stopsNow_16, x_m_stopsNow_17, x_m_stopsNow_18, x_m_stopsNow_21, x_m_stopsNow_23, x_m_stopsNow_24, x_m_stopsNow_25, x_m_stopsNow_26, x_m_stopsNow_27, x_m_stopsNow_30, x_m_stopsNow_31, x_m_stopsNow_32, x_m_stopsNow_35, x_m_stopsNow_38, x_m_stopsNow_39, x_m_stopsNow_42, x_m_stopsNow_43, x_m_stopsNow_44, x_m_stopsNow_47, x_m_stopsNow_49, x_m_stopsNow_50, x_m_stopsNow_51, x_m_stopsNow_54, x_m_stopsNow_55, x_m_stopsNow_56, x_m_stopsNow_57, x_m_stopsNow_59, x_m_stopsNow_60, x_m_stopsNow_63, x_m_stopsNow_64, x_m_stopsNow_67, x_m_stopsNow_69, x_m_stopsNow_70, x_m_stopsNow_71, x_m_stopsNow_74, x_m_stopsNow_77, x_m_stopsNow_78, x_m_stopsNow_79, x_m_stopsNow_82, x_m_stopsNow_85, x_m_stopsNow_86, x_m_stopsNow_87, x_m_stopsNow_88, x_m_stopsNow_91, x_m_stopsNow_92, x_m_stopsNow_93, x_m_stopsNow_96, x_m_stopsNow_99, x_m_stopsNow_100, q_le, Nat.le_refl, if_true, sp_m_answers hG, XK_s, q_i2l, q_in, q_tn, true_and, g30, c_lt, q_llt]
theorem sp_stopsNow (hG : ∀ k, k < 101 → jv 119 k = lN (G k)) (hB : IB G) (hn : nz (wt G 0)) (hQ : ∀ iv' jv', FR iv jv iv' jv' → Q (some (.int (stV G))) (mk iv' jv')) : XM (d + 8) Ym_stopsNow [.ref 118] iv jv Q := by
  simp only [e_m_stopsNow, x_m_stopsNow_0, x_m_stopsNow_1]
  unfold stV at hQ
  rw [st_a (by decide) hG hB]
  by_cases p1 : G (18 + 0) ≤ inK G 0
  · rw [if_pos p1, st_a (by decide) hG hB]
    by_cases p2 : G (18 + (0 + 1)) ≤ inK G (0 + 1)
    · rw [if_pos p2, st_a (by decide) hG hB]
      by_cases p3 : G (18 + (0 + 1 + 1)) ≤ inK G (0 + 1 + 1)
      · rw [if_pos p3, st_b hG hB]
        simp only [Nat.reduceAdd] at p1 p2 p3
        rw [if_neg (by omega)] at hQ
        by_cases p4 : G 30 ≤ G 36
        · rw [if_pos p4] at hQ
          rw [if_neg (by omega)]
          exact hQ _ _ (FR_r _ _)
        · rw [if_neg p4] at hQ
          rw [if_pos (by omega)]
          exact lp_m_stops hG hB hn 5 0 (by omega) hQ _ _ (FR_r _ _) _
      · rw [if_neg p3]
        simp only [Nat.reduceAdd] at p1 p2 p3
        rw [if_pos (by omega)] at hQ
        exact hQ _ _ (FR_r _ _)
    · rw [if_neg p2]
      simp only [Nat.reduceAdd] at p1 p2
      rw [if_pos (by omega)] at hQ
      exact hQ _ _ (FR_r _ _)
  · rw [if_neg p1]
    simp only [Nat.reduceAdd] at p1
    rw [if_pos (by omega)] at hQ
    exact hQ _ _ (FR_r _ _)
theorem sp_m_stops (hG : ∀ k, k < 101 → jv 119 k = lN (G k)) (hB : IB G) (hn : nz (wt G 0)) (hQ : ∀ iv' jv', FR iv jv iv' jv' → Q (some (.int (if G 34 = 1 then stV G else -3))) (mk iv' jv')) : XM (d + 9) Ym_stops [.ref 118] iv jv Q := by
  obtain ⟨b1, b2, b3, b4, b5, b6, b7, b8, b9, b10, b11, b12, b13⟩ := id hB
  have g34 := hG 34 (by decide)
  simp only [e_m_stops, x_m_stops_0, x_m_stops_1, x_m_stops_4, x_m_stops_7, x_m_stops_8, x_m_stops_11, x_m_stops_14, x_m_stops_16, sp_m_isOn g34 b13, XK_s, b01_eq0]
  by_cases h : G 34 = 1
  · simp only [h, not_true_eq_false, if_false, if_true] at hQ ⊢
    refine sp_stopsNow hG hB hn (fun iv' jv' hF => ?_)
    simp only [XK_s, x_m_stops_0, x_m_stops_1, x_m_stops_4, x_m_stops_7, x_m_stops_8, x_m_stops_11, x_m_stops_14, x_m_stops_16]
    exact hQ _ _ hF
  · simp only [h, not_false_eq_true, if_false, if_true] at hQ ⊢
    exact hQ _ _ (FR_r _ _)
end STOP
