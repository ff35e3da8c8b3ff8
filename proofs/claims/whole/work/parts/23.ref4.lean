section REF4
variable {d : Nat} {iv : mI} {jv : mJ} {Q : Option Value → mH → Prop} {G : Nat → Nat} {f : Nat → Nat}
def ao (c f : Nat → Nat) : Nat → Bool
  | 0 => false
  | n + 1 => ao c f n || tf (f n) (c n)
theorem ao_s (c f : Nat → Nat) (n : Nat) : ao c f (n + 1) = (ao c f n || tf (f n) (c n)) := rfl
theorem ao_ok {c f : Nat → Nat} : ∀ {n : Nat}, (∀ l, l < n → f l * c l ≤ MX) → ao c f n = false
  | 0, _ => rfl
  | n + 1, h => by rw [ao_s, ao_ok (fun l hl => h l (by omega)), tf_ok (h n (by omega))]; rfl
theorem ao_of {c f : Nat → Nat} : ∀ {n : Nat}, ao c f n = false → ∀ l, l < n → f l * c l ≤ MX
  | 0, _, l, hl => by omega
  | n + 1, h, l, hl => by
    rw [ao_s, Bool.or_eq_false_iff] at h
    by_cases e : l = n
    · subst e
      by_cases h2 : f l * c l ≤ MX
      · exact h2
      · rw [tf_bad (by omega)] at h; exact absurd h.2 (by decide)
    · exact ao_of h.1 l (by omega)
theorem ne119 {jv : mJ} {g : Nat → Nat} {n : Nat} (hG : ∀ k, k < 101 → jv 119 k = lN (G k)) : ∀ k, k < 101 → stW jv g n 119 k = lN (G k) := fun k hk => by rw [stW_ne (by decide)]; exact hG k hk
theorem lp_m_goesBy {i r : Nat} (hG : ∀ k, k < 101 → jv 119 k = lN (G k)) (hB : IB G) (hi : i < 8) (hr : r < 2) (hW : ∀ l, l < 9 → jv 122 l = lN (f l)) (hf : ∀ l, l < 9 → f l < 9223372036854775808) (R : Prop) (hR : ∀ i3 u4, XT (d + 3) Ym_goesBy 55 [.ref 118, .int (nI i), .int (nI r), .int i3, u4] [] (fl iv (ao (cf G i r) f 9)) (stW jv (fun l => tv (f l) (cf G i r l)) 9) Q = R) : ∀ n l, l + n = 9 → ∀ u4, XT (d + 3) Ym_goesBy 2 [.ref 118, .int (nI i), .int (nI r), .int (nI l), u4] [] (fl iv (ao (cf G i r) f l)) (stW jv (fun l => tv (f l) (cf G i r l)) l) Q = R := by
  intro n
  induction n with
  | zero =>
    intro l hl u4
    obtain rfl : l = 9 := by omega
    rw [x_m_goesBy_2, ← hR (nI 9) u4]
    simp (disch := omega) only [x_m_goesBy_3, x_m_goesBy_5, q_le, Nat.le_refl, if_true]
  | succ n ih =>
    intro l hl u4
    have h4 : ¬ 9 ≤ l := by omega
    have h5 := hf l (by omega)
    have h6 := rgt_in G i l
    have h7 := stW_s jv (fun l => tv (f l) (cf G i r l)) l
    have h8 := ih (l + 1) (by omega)
    have hc : cf G i r l < 9223372036854775808 := by have := cf_in G i r l; omega
    rw [← h7, ao_s, ← fl_fl] at h8
    rw [x_m_goesBy_2]
    simp (disch := omega) only [x_m_goesBy_0, x_m_goesBy_1, x_m_goesBy_3, x_m_goesBy_5, x_m_goesBy_8, x_m_goesBy_9, x_m_goesBy_10, x_m_goesBy_11, x_m_goesBy_14, x_m_goesBy_16, x_m_goesBy_17, x_m_goesBy_20, x_m_goesBy_21, x_m_goesBy_22, x_m_goesBy_23, x_m_goesBy_26, x_m_goesBy_27, x_m_goesBy_28, x_m_goesBy_29, x_m_goesBy_30, x_m_goesBy_33, x_m_goesBy_35, x_m_goesBy_36, x_m_goesBy_39, x_m_goesBy_41, x_m_goesBy_43, x_m_goesBy_44, x_m_goesBy_45, x_m_goesBy_48, x_m_goesBy_49, x_m_goesBy_52, x_m_goesBy_55, x_m_goesBy_56, x_m_goesBy_59, x_m_goesBy_62, x_m_goesBy_63, x_m_goesBy_66, q_le, h4, if_false, q_in, q_tn, true_and, sp_m_rightOf (ne119 hG) hB, XK_s, stW_ge, Nat.le_refl, hW, q_eq]
    unfold cf at h8 hc ⊢
    by_cases h9 : r = 1
    · rw [if_pos h9] at h8 hc ⊢
      simp only [h9, if_true] at h8 ⊢
      simp (disch := omega) only [x_m_goesBy_0, x_m_goesBy_1, x_m_goesBy_3, x_m_goesBy_5, x_m_goesBy_8, x_m_goesBy_9, x_m_goesBy_10, x_m_goesBy_11, x_m_goesBy_14, x_m_goesBy_16, x_m_goesBy_17, x_m_goesBy_20, x_m_goesBy_21, x_m_goesBy_22, x_m_goesBy_23, x_m_goesBy_26, x_m_goesBy_27, x_m_goesBy_28, x_m_goesBy_29, x_m_goesBy_30, x_m_goesBy_33, x_m_goesBy_35, x_m_goesBy_36, x_m_goesBy_39, x_m_goesBy_41, x_m_goesBy_43, x_m_goesBy_44, x_m_goesBy_45, x_m_goesBy_48, x_m_goesBy_49, x_m_goesBy_52, x_m_goesBy_55, x_m_goesBy_56, x_m_goesBy_59, x_m_goesBy_62, x_m_goesBy_63, x_m_goesBy_66, q_i2l, sp_m_times, XK_s, q_in, q_tn, true_and, q_add]
      exact h8 _
    · rw [if_neg h9] at h8 hc ⊢
      simp only [h9, if_false] at h8 ⊢
      simp (disch := omega) only [x_m_goesBy_0, x_m_goesBy_1, x_m_goesBy_3, x_m_goesBy_5, x_m_goesBy_8, x_m_goesBy_9, x_m_goesBy_10, x_m_goesBy_11, x_m_goesBy_14, x_m_goesBy_16, x_m_goesBy_17, x_m_goesBy_20, x_m_goesBy_21, x_m_goesBy_22, x_m_goesBy_23, x_m_goesBy_26, x_m_goesBy_27, x_m_goesBy_28, x_m_goesBy_29, x_m_goesBy_30, x_m_goesBy_33, x_m_goesBy_35, x_m_goesBy_36, x_m_goesBy_39, x_m_goesBy_41, x_m_goesBy_43, x_m_goesBy_44, x_m_goesBy_45, x_m_goesBy_48, x_m_goesBy_49, x_m_goesBy_52, x_m_goesBy_55, x_m_goesBy_56, x_m_goesBy_59, x_m_goesBy_62, x_m_goesBy_63, x_m_goesBy_66, q_sub, q_i2l, sp_m_times, XK_s, q_in, q_tn, true_and, q_add]
      exact h8 _
theorem sp_m_goesBy {i r : Nat} (hG : ∀ k, k < 101 → jv 119 k = lN (G k)) (hB : IB G) (hi : i < 8) (hr : r < 2) (hW : ∀ l, l < 9 → jv 122 l = lN (f l)) (hf : ∀ l, l < 9 → f l < 9223372036854775808) (hn : nz f) (h5 : iv 118 5 = nI 0) : XM (d + 4) Ym_goesBy [.ref 118, .int (nI i), .int (nI r)] iv jv Q = if ao (cf G i r) f 9 = true then Q none (mk (upi iv 118 5 (nI 1)) (stW jv (fun l => tv (f l) (cf G i r l)) 9)) else Q none (mk iv (stW jv (dv (ml G i r f)) 9)) := by
  simp only [e_m_goesBy, x_m_goesBy_0, x_m_goesBy_1, x_m_goesBy_3, x_m_goesBy_5, x_m_goesBy_8, x_m_goesBy_9, x_m_goesBy_10, x_m_goesBy_11, x_m_goesBy_14, x_m_goesBy_16, x_m_goesBy_17, x_m_goesBy_20, x_m_goesBy_21, x_m_goesBy_22, x_m_goesBy_23, x_m_goesBy_26, x_m_goesBy_27, x_m_goesBy_28, x_m_goesBy_29, x_m_goesBy_30, x_m_goesBy_33, x_m_goesBy_35, x_m_goesBy_36, x_m_goesBy_39, x_m_goesBy_41, x_m_goesBy_43, x_m_goesBy_44, x_m_goesBy_45, x_m_goesBy_48, x_m_goesBy_49, x_m_goesBy_52, x_m_goesBy_55, x_m_goesBy_56, x_m_goesBy_59, x_m_goesBy_62, x_m_goesBy_63, x_m_goesBy_66]
  have h0 : ao (cf G i r) f 0 = false := rfl
  refine (lp_m_goesBy (d := d) (iv := iv) (Q := Q) hG hB hi hr hW hf (if ao (cf G i r) f 9 = true then Q none (mk (upi iv 118 5 (nI 1)) (stW jv (fun l => tv (f l) (cf G i r l)) 9)) else Q none (mk iv (stW jv (dv (ml G i r f)) 9))) (fun i3 u4 => ?_) 9 0 (by omega) mU |> fun z => by rw [stW_0, h0, fl_f] at z; exact z)
  simp only [x_m_goesBy_55, x_m_goesBy_56, x_m_goesBy_59]
  by_cases hb : ao (cf G i r) f 9 = true
  · simp (disch := omega) only [hb, fl_5 h5, if_true, q_eq, x_m_goesBy_0, x_m_goesBy_1, x_m_goesBy_3, x_m_goesBy_5, x_m_goesBy_8, x_m_goesBy_9, x_m_goesBy_10, x_m_goesBy_11, x_m_goesBy_14, x_m_goesBy_16, x_m_goesBy_17, x_m_goesBy_20, x_m_goesBy_21, x_m_goesBy_22, x_m_goesBy_23, x_m_goesBy_26, x_m_goesBy_27, x_m_goesBy_28, x_m_goesBy_29, x_m_goesBy_30, x_m_goesBy_33, x_m_goesBy_35, x_m_goesBy_36, x_m_goesBy_39, x_m_goesBy_41, x_m_goesBy_43, x_m_goesBy_44, x_m_goesBy_45, x_m_goesBy_48, x_m_goesBy_49, x_m_goesBy_52, x_m_goesBy_55, x_m_goesBy_56, x_m_goesBy_59, x_m_goesBy_62, x_m_goesBy_63, x_m_goesBy_66, fl_t]
    simp
  · have hb' : ao (cf G i r) f 9 = false := by simpa using hb
    have hok := ao_of hb'
    have e1 : stW jv (fun l => tv (f l) (cf G i r l)) 9 = stW jv (ml G i r f) 9 := stW_congr (fun k hk => tv_ok (hok k hk))
    have h1 := sp_m_divides (d := d + 1) (iv := iv) (jv := stW jv (ml G i r f) 9) (f := ml G i r f) (Q := XK (d + 3) Ym_goesBy 66 [.ref 118, .int (nI i), .int (nI r), .int i3, u4] [] Q) (fun l hl => stW_lt hl) (fun l hl => by have := hok l hl; unfold MX at this; unfold ml; omega) (ml_nz hn)
    rw [stW_stW] at h1
    rw [hb', fl_f, e1]
    simp only [h5, if_true, x_m_goesBy_0, x_m_goesBy_1, x_m_goesBy_3, x_m_goesBy_5, x_m_goesBy_8, x_m_goesBy_9, x_m_goesBy_10, x_m_goesBy_11, x_m_goesBy_14, x_m_goesBy_16, x_m_goesBy_17, x_m_goesBy_20, x_m_goesBy_21, x_m_goesBy_22, x_m_goesBy_23, x_m_goesBy_26, x_m_goesBy_27, x_m_goesBy_28, x_m_goesBy_29, x_m_goesBy_30, x_m_goesBy_33, x_m_goesBy_35, x_m_goesBy_36, x_m_goesBy_39, x_m_goesBy_41, x_m_goesBy_43, x_m_goesBy_44, x_m_goesBy_45, x_m_goesBy_48, x_m_goesBy_49, x_m_goesBy_52, x_m_goesBy_55, x_m_goesBy_56, x_m_goesBy_59, x_m_goesBy_62, x_m_goesBy_63, x_m_goesBy_66, h1, XK_n]
    simp
theorem lp_m_wb1 {many : Int32} (hG : ∀ k, k < 101 → jv 119 k = lN (G k)) (hB : IB G) (R : Prop) (hR : ∀ i2, XT (d + 4) Ym_weighsBy 45 [.ref 118, .int many, .int i2] [] iv (stW jv (wt G 0) 9) Q = R) : ∀ n l, l + n = 9 → XT (d + 4) Ym_weighsBy 7 [.ref 118, .int many, .int (nI l)] [] iv (stW jv (wt G 0) l) Q = R := by
  obtain ⟨b1, b2, b3, b4, b5, b6, b7, b8, b9, b10, b11, b12, b13⟩ := id hB
  intro n
  induction n with
  | zero =>
    intro l hl
    obtain rfl : l = 9 := by omega
    rw [x_m_weighsBy_7, ← hR (nI 9)]
    simp (disch := omega) only [x_m_weighsBy_8, x_m_weighsBy_10, q_le, Nat.le_refl, if_true]
  | succ n ih =>
    intro l hl
    have h4 : ¬ 9 ≤ l := by omega
    have h7 := stW_s jv (wt G 0) l
    have h8 := ih (l + 1) (by omega)
    rw [← h7] at h8
    have e34 : stW jv (wt G 0) l 119 34 = lN (G 34) := ne119 hG 34 (by omega)
    have e1 : stW jv (wt G 0) l 119 (9 + l) = lN (G (9 + l)) := ne119 hG _ (by omega)
    have e2 : stW jv (wt G 0) l 119 (0 + l) = lN (G (0 + l)) := ne119 hG _ (by omega)
    have e0 : wt G 0 l = if G 34 = 1 then G (9 + l) else G l := rfl
    rw [e0] at h8
    rw [x_m_weighsBy_7]
    simp (disch := omega) only [x_m_weighsBy_0, x_m_weighsBy_1, x_m_weighsBy_2, x_m_weighsBy_5, x_m_weighsBy_6, x_m_weighsBy_8, x_m_weighsBy_10, x_m_weighsBy_13, x_m_weighsBy_14, x_m_weighsBy_17, x_m_weighsBy_18, x_m_weighsBy_19, x_m_weighsBy_22, x_m_weighsBy_23, x_m_weighsBy_26, x_m_weighsBy_29, x_m_weighsBy_31, x_m_weighsBy_34, x_m_weighsBy_35, x_m_weighsBy_36, x_m_weighsBy_37, x_m_weighsBy_38, x_m_weighsBy_39, x_m_weighsBy_42, x_m_weighsBy_45, x_m_weighsBy_46, x_m_weighsBy_48, x_m_weighsBy_49, x_m_weighsBy_52, x_m_weighsBy_53, x_m_weighsBy_54, x_m_weighsBy_55, x_m_weighsBy_58, x_m_weighsBy_59, x_m_weighsBy_62, x_m_weighsBy_64, x_m_weighsBy_65, x_m_weighsBy_66, x_m_weighsBy_67, x_m_weighsBy_68, x_m_weighsBy_69, x_m_weighsBy_70, x_m_weighsBy_71, x_m_weighsBy_72, x_m_weighsBy_75, x_m_weighsBy_78, x_m_weighsBy_81, q_le, h4, if_false, sp_m_isOn e34 b13, XK_s, b01_eq0]
    by_cases h9 : G 34 = 1
    · rw [if_pos h9] at h8
      simp (disch := omega) only [x_m_weighsBy_0, x_m_weighsBy_1, x_m_weighsBy_2, x_m_weighsBy_5, x_m_weighsBy_6, x_m_weighsBy_8, x_m_weighsBy_10, x_m_weighsBy_13, x_m_weighsBy_14, x_m_weighsBy_17, x_m_weighsBy_18, x_m_weighsBy_19, x_m_weighsBy_22, x_m_weighsBy_23, x_m_weighsBy_26, x_m_weighsBy_29, x_m_weighsBy_31, x_m_weighsBy_34, x_m_weighsBy_35, x_m_weighsBy_36, x_m_weighsBy_37, x_m_weighsBy_38, x_m_weighsBy_39, x_m_weighsBy_42, x_m_weighsBy_45, x_m_weighsBy_46, x_m_weighsBy_48, x_m_weighsBy_49, x_m_weighsBy_52, x_m_weighsBy_53, x_m_weighsBy_54, x_m_weighsBy_55, x_m_weighsBy_58, x_m_weighsBy_59, x_m_weighsBy_62, x_m_weighsBy_64, x_m_weighsBy_65, x_m_weighsBy_66, x_m_weighsBy_67, x_m_weighsBy_68, x_m_weighsBy_69, x_m_weighsBy_70, x_m_weighsBy_71, x_m_weighsBy_72, x_m_weighsBy_75, x_m_weighsBy_78, x_m_weighsBy_81, h9, not_true_eq_false, if_false, q_add, q_in, q_tn, true_and, e1]
      exact h8
    · rw [if_neg h9] at h8
      simp (disch := omega) only [x_m_weighsBy_0, x_m_weighsBy_1, x_m_weighsBy_2, x_m_weighsBy_5, x_m_weighsBy_6, x_m_weighsBy_8, x_m_weighsBy_10, x_m_weighsBy_13, x_m_weighsBy_14, x_m_weighsBy_17, x_m_weighsBy_18, x_m_weighsBy_19, x_m_weighsBy_22, x_m_weighsBy_23, x_m_weighsBy_26, x_m_weighsBy_29, x_m_weighsBy_31, x_m_weighsBy_34, x_m_weighsBy_35, x_m_weighsBy_36, x_m_weighsBy_37, x_m_weighsBy_38, x_m_weighsBy_39, x_m_weighsBy_42, x_m_weighsBy_45, x_m_weighsBy_46, x_m_weighsBy_48, x_m_weighsBy_49, x_m_weighsBy_52, x_m_weighsBy_53, x_m_weighsBy_54, x_m_weighsBy_55, x_m_weighsBy_58, x_m_weighsBy_59, x_m_weighsBy_62, x_m_weighsBy_64, x_m_weighsBy_65, x_m_weighsBy_66, x_m_weighsBy_67, x_m_weighsBy_68, x_m_weighsBy_69, x_m_weighsBy_70, x_m_weighsBy_71, x_m_weighsBy_72, x_m_weighsBy_75, x_m_weighsBy_78, x_m_weighsBy_81, h9, not_false_eq_true, if_true, q_add, q_in, q_tn, true_and, e2]
      rw [Nat.zero_add]
      exact h8
theorem lp_m_wb2 {m : Nat} (hG : ∀ k, k < 101 → jv 119 k = lN (G k)) (hB : IB G) (hn : nz (wt G 0)) (h5 : iv 118 5 = nI 0) (hm : m ≤ 8) : ∀ n k, k + n = m → XT (d + 4) Ym_weighsBy 47 [.ref 118, .int (nI m), .int (nI k)] [] iv (stW jv (wt G k) 9) Q = Q none (mk iv (stW jv (wt G m) 9)) := by
  obtain ⟨b1, b2, b3, b4, b5, b6, b7, b8, b9, b10, b11, b12, b13⟩ := id hB
  intro n
  induction n with
  | zero =>
    intro k hk
    obtain rfl : k = m := by omega
    rw [x_m_weighsBy_47]
    simp (disch := omega) only [x_m_weighsBy_0, x_m_weighsBy_1, x_m_weighsBy_2, x_m_weighsBy_5, x_m_weighsBy_6, x_m_weighsBy_8, x_m_weighsBy_10, x_m_weighsBy_13, x_m_weighsBy_14, x_m_weighsBy_17, x_m_weighsBy_18, x_m_weighsBy_19, x_m_weighsBy_22, x_m_weighsBy_23, x_m_weighsBy_26, x_m_weighsBy_29, x_m_weighsBy_31, x_m_weighsBy_34, x_m_weighsBy_35, x_m_weighsBy_36, x_m_weighsBy_37, x_m_weighsBy_38, x_m_weighsBy_39, x_m_weighsBy_42, x_m_weighsBy_45, x_m_weighsBy_46, x_m_weighsBy_48, x_m_weighsBy_49, x_m_weighsBy_52, x_m_weighsBy_53, x_m_weighsBy_54, x_m_weighsBy_55, x_m_weighsBy_58, x_m_weighsBy_59, x_m_weighsBy_62, x_m_weighsBy_64, x_m_weighsBy_65, x_m_weighsBy_66, x_m_weighsBy_67, x_m_weighsBy_68, x_m_weighsBy_69, x_m_weighsBy_70, x_m_weighsBy_71, x_m_weighsBy_72, x_m_weighsBy_75, x_m_weighsBy_78, x_m_weighsBy_81, q_le, Nat.le_refl, if_true]
  | succ n ih =>
    intro k hk
    have h4 : ¬ m ≤ k := by omega
    obtain ⟨a1, a2⟩ := b5 k (by omega)
    have e1 : stW jv (wt G k) 9 119 (85 + 2 * k + 1) = lN (G (85 + 2 * k + 1)) := ne119 hG _ (by omega)
    have hao : ao (cf G (G (85 + 2 * k)) (G (85 + 2 * k + 1))) (wt G k) 9 = false := ao_ok (fun l hl => wt_ml_le b6 (by omega) hl)
    have h1 := sp_m_goesBy (d := d) (iv := iv) (jv := stW jv (wt G k) 9) (f := wt G k) (i := G (85 + 2 * k)) (r := G (85 + 2 * k + 1)) (Q := XK (d + 4) Ym_weighsBy 75 [.ref 118, .int (nI m), .int (nI k)] [] Q) (ne119 hG) hB a1 (by omega) (fun l hl => stW_lt hl) (fun l hl => wt_lt b6 (by omega) hl) (wt_nz hn k) h5
    rw [hao, if_neg (by decide), stW_stW] at h1
    rw [x_m_weighsBy_47]
    simp (disch := omega) only [x_m_weighsBy_0, x_m_weighsBy_1, x_m_weighsBy_2, x_m_weighsBy_5, x_m_weighsBy_6, x_m_weighsBy_8, x_m_weighsBy_10, x_m_weighsBy_13, x_m_weighsBy_14, x_m_weighsBy_17, x_m_weighsBy_18, x_m_weighsBy_19, x_m_weighsBy_22, x_m_weighsBy_23, x_m_weighsBy_26, x_m_weighsBy_29, x_m_weighsBy_31, x_m_weighsBy_34, x_m_weighsBy_35, x_m_weighsBy_36, x_m_weighsBy_37, x_m_weighsBy_38, x_m_weighsBy_39, x_m_weighsBy_42, x_m_weighsBy_45, x_m_weighsBy_46, x_m_weighsBy_48, x_m_weighsBy_49, x_m_weighsBy_52, x_m_weighsBy_53, x_m_weighsBy_54, x_m_weighsBy_55, x_m_weighsBy_58, x_m_weighsBy_59, x_m_weighsBy_62, x_m_weighsBy_64, x_m_weighsBy_65, x_m_weighsBy_66, x_m_weighsBy_67, x_m_weighsBy_68, x_m_weighsBy_69, x_m_weighsBy_70, x_m_weighsBy_71, x_m_weighsBy_72, x_m_weighsBy_75, x_m_weighsBy_78, x_m_weighsBy_81, q_le, h4, if_false, sp_m_askedAt (ne119 hG), XK_s, q_mul, q_add, q_in, q_tn, true_and, e1, q_l2i, h1, XK_n]
    exact ih (k + 1) (by omega)
theorem sp_m_weighsBy {m : Nat} (hG : ∀ k, k < 101 → jv 119 k = lN (G k)) (hB : IB G) (hn : nz (wt G 0)) (hm : m ≤ 8) : XM (d + 5) Ym_weighsBy [.ref 118, .int (nI m)] iv jv Q = Q none (mk (upi iv 118 5 (nI 0)) (stW jv (wt G m) 9)) := by
  simp only [e_m_weighsBy, x_m_weighsBy_0, x_m_weighsBy_1, x_m_weighsBy_2, x_m_weighsBy_5, x_m_weighsBy_6, x_m_weighsBy_8, x_m_weighsBy_10, x_m_weighsBy_13, x_m_weighsBy_14, x_m_weighsBy_17, x_m_weighsBy_18, x_m_weighsBy_19, x_m_weighsBy_22, x_m_weighsBy_23, x_m_weighsBy_26, x_m_weighsBy_29, x_m_weighsBy_31, x_m_weighsBy_34, x_m_weighsBy_35, x_m_weighsBy_36, x_m_weighsBy_37, x_m_weighsBy_38, x_m_weighsBy_39, x_m_weighsBy_42, x_m_weighsBy_45, x_m_weighsBy_46, x_m_weighsBy_48, x_m_weighsBy_49, x_m_weighsBy_52, x_m_weighsBy_53, x_m_weighsBy_54, x_m_weighsBy_55, x_m_weighsBy_58, x_m_weighsBy_59, x_m_weighsBy_62, x_m_weighsBy_64, x_m_weighsBy_65, x_m_weighsBy_66, x_m_weighsBy_67, x_m_weighsBy_68, x_m_weighsBy_69, x_m_weighsBy_70, x_m_weighsBy_71, x_m_weighsBy_72, x_m_weighsBy_75, x_m_weighsBy_78, x_m_weighsBy_81, z01, true_or, true_and]
  have h := lp_m_wb1 (d := d) (iv := upi iv 118 5 (nI 0)) (many := nI m) (Q := Q) hG hB (Q none (mk (upi iv 118 5 (nI 0)) (stW jv (wt G m) 9))) (fun i2 => ?_) 9 0 (by omega)
  · rw [stW_0] at h
    exact h
  · simp only [x_m_weighsBy_45, x_m_weighsBy_46]
    exact lp_m_wb2 hG hB hn (by simp [upi]) hm m 0 (by omega)
theorem sp_m_weighs (hG : ∀ k, k < 101 → jv 119 k = lN (G k)) (hB : IB G) (hn : nz (wt G 0)) : XM (d + 6) Ym_weighs [.ref 118] iv jv Q = Q none (mk (upi iv 118 5 (nI 0)) (stW jv (wt G (G 36)) 9)) := by
  simp only [e_m_weighs, x_m_weighs_0, x_m_weighs_1, x_m_weighs_2, x_m_weighs_5, x_m_weighs_8, sp_m_answers hG, XK_s, sp_m_weighsBy hG hB hn hB.2.1, XK_n]
end REF4
