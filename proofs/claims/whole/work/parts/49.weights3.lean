section WEIGHTS3
variable {d : Nat} {iv : mI} {jv : mJ} {Q : Option Value → mH → Prop} {f : Nat → Nat} {w : Nat}
theorem lo_tv (a b : Nat) : tP (a, false) (b, false) = (tv a b, tf a b) := by unfold tP; simp
theorem lp_w_go {q r : Nat} {R c : Nat → Nat} (hw : shp w = (4, 4)) (hw1 : shp (w + 1) = (17, 9)) (hq : shp q = (2, 10)) (hq1 : shp (q + 1) = (16, 9)) (hqn : q + 1 ≠ 1001) (hr2 : r < 2) (hf : ∀ l, l < 9 → f l < 9223372036854775808) (hn : nz (fun l => f l * c l)) (hR : ∀ l, l < 9 → iv (q + 1) l = nI (R l)) (hR2 : ∀ l, l < 9 → 1 ≤ R l ∧ R l ≤ 15) (hc : ∀ l, l < 9 → c l = if r = 1 then R l else 16 - R l) (hQ : ao c f 9 = false → ∀ jv', FJ w jv jv' → WR w (dv (fun l => f l * c l)) jv' → Q (some (.int (nI 1))) (mk iv jv')) (h0 : ao c f 9 = true → ∀ jv', FJ w jv jv' → Q (some (.int (nI 0))) (mk iv jv')) : ∀ n l, l + n = 9 → ao c f l = false → ∀ jv1, FJ w jv jv1 → (∀ k, k < 9 → jv1 (w + 1) k = if k < l then lN (f k * c k) else lN (f k)) → XT (d + 3) Yw_go 2 [.ref w, .ref q, .int (nI r), .int (nI l)] [] iv jv1 Q := by
  intro n
  induction n with
  | zero =>
    intro l hl ha jv1 hF hS
    obtain rfl : l = 9 := by omega
    have hok := ao_of ha
    rw [x_w_go_2]
    simp (disch := first | assumption | omega) only [x_w_go_0, x_w_go_1, x_w_go_3, x_w_go_5, x_w_go_8, x_w_go_9, x_w_go_12, x_w_go_13, x_w_go_14, x_w_go_17, x_w_go_18, x_w_go_19, x_w_go_20, x_w_go_21, x_w_go_24, x_w_go_25, x_w_go_28, x_w_go_29, x_w_go_30, x_w_go_31, x_w_go_34, x_w_go_36, x_w_go_37, x_w_go_40, x_w_go_41, x_w_go_42, x_w_go_43, x_w_go_44, x_w_go_47, x_w_go_48, x_w_go_49, x_w_go_52, x_w_go_53, x_w_go_54, x_w_go_55, x_w_go_56, x_w_go_59, x_w_go_60, x_w_go_61, x_w_go_64, x_w_go_67, x_w_go_68, x_w_go_71, x_w_go_72, q_le, Nat.le_refl, if_true, hw, true_and]
    refine sp_w_lower (f := fun l => f l * c l) hw hw1 (fun l hl => ?_) hn (fun l hl => by rw [hS l hl, if_pos hl]) (fun jv' h3 h4 => ?_)
    · have h1 := hok l hl
      unfold MX at h1
      show f l * c l < 9223372036854775808
      omega
    simp only [XK_n, x_w_go_0, x_w_go_1, x_w_go_3, x_w_go_5, x_w_go_8, x_w_go_9, x_w_go_12, x_w_go_13, x_w_go_14, x_w_go_17, x_w_go_18, x_w_go_19, x_w_go_20, x_w_go_21, x_w_go_24, x_w_go_25, x_w_go_28, x_w_go_29, x_w_go_30, x_w_go_31, x_w_go_34, x_w_go_36, x_w_go_37, x_w_go_40, x_w_go_41, x_w_go_42, x_w_go_43, x_w_go_44, x_w_go_47, x_w_go_48, x_w_go_49, x_w_go_52, x_w_go_53, x_w_go_54, x_w_go_55, x_w_go_56, x_w_go_59, x_w_go_60, x_w_go_61, x_w_go_64, x_w_go_67, x_w_go_68, x_w_go_71, x_w_go_72, z11, or_true, true_and]
    exact hQ ha jv' (FJ_t hF h3) h4
  | succ n ih =>
    intro l hl ha jv1 hF hS
    have h4 : ¬ 9 ≤ l := by omega
    have h5 := hf l (by omega)
    have hrw := hS l (by omega)
    rw [if_neg (by omega), lo_n] at hrw
    have hRl := hR l (by omega)
    have hR2l := hR2 l (by omega)
    have hcl := hc l (by omega)
    have hc15 : c l ≤ 16 := by rw [hcl]; split <;> omega
    have hx := fun (Q : Option Value → mH → Prop) => sp_e_times (d := d + 2) (iv := iv) (jv := jv1) (Q := Q) (a := (f l, false)) (b := (c l, false)) h5 (show c l < _ from by omega)
    rw [lo_tv] at hx
    have tl := tv_lt (f l) (c l)
    have step : XM (d + 3) Ye_times [.long (lo (f l, false)), .long (lo (c l, false))] iv jv1 (XK (d + 3) Yw_go 47 [.ref w, .ref q, .int (nI r), .int (nI l)] [.int (nI l), .ref (w + 1)] Q) := by
      rw [hx]
      have hs9 := ao_s c f l
      by_cases ht : tf (f l) (c l) = true
      · have hge : ¬ (lN 0 ≤ lo (tv (f l) (c l), tf (f l) (c l))) := by rw [lo_ge0 tl]; simp [ht]
        have hlt : lo (tv (f l) (c l), tf (f l) (c l)) < lN 0 := by rw [lo_lt0 tl]; exact ht
        have hg9 : ao c f 9 = true := by
          rcases Bool.eq_false_or_eq_true (ao c f 9) with e | e
          · exact e
          · have := ao_of e l (by omega)
            rw [tf_ok this] at ht
            exact absurd ht (by decide)
        simp (disch := first | assumption | omega) only [XK_s, x_w_go_0, x_w_go_1, x_w_go_3, x_w_go_5, x_w_go_8, x_w_go_9, x_w_go_12, x_w_go_13, x_w_go_14, x_w_go_17, x_w_go_18, x_w_go_19, x_w_go_20, x_w_go_21, x_w_go_24, x_w_go_25, x_w_go_28, x_w_go_29, x_w_go_30, x_w_go_31, x_w_go_34, x_w_go_36, x_w_go_37, x_w_go_40, x_w_go_41, x_w_go_42, x_w_go_43, x_w_go_44, x_w_go_47, x_w_go_48, x_w_go_49, x_w_go_52, x_w_go_53, x_w_go_54, x_w_go_55, x_w_go_56, x_w_go_59, x_w_go_60, x_w_go_61, x_w_go_64, x_w_go_67, x_w_go_68, x_w_go_71, x_w_go_72, hw, hw1, true_and, q_in, q_tn, upj_at, c_ge, c_lt, hge, hlt, if_false, if_true, z01, true_or]
        exact h0 hg9 _ (FJ_u hF _ _)
      · have ht' : tf (f l) (c l) = false := by simpa using ht
        have hge : lN 0 ≤ lo (tv (f l) (c l), tf (f l) (c l)) := by rw [lo_ge0 tl]; simp [ht']
        have hlt : ¬ lo (tv (f l) (c l), tf (f l) (c l)) < lN 0 := by rw [lo_lt0 tl]; simp [ht']
        simp (disch := first | assumption | omega) only [XK_s, x_w_go_0, x_w_go_1, x_w_go_3, x_w_go_5, x_w_go_8, x_w_go_9, x_w_go_12, x_w_go_13, x_w_go_14, x_w_go_17, x_w_go_18, x_w_go_19, x_w_go_20, x_w_go_21, x_w_go_24, x_w_go_25, x_w_go_28, x_w_go_29, x_w_go_30, x_w_go_31, x_w_go_34, x_w_go_36, x_w_go_37, x_w_go_40, x_w_go_41, x_w_go_42, x_w_go_43, x_w_go_44, x_w_go_47, x_w_go_48, x_w_go_49, x_w_go_52, x_w_go_53, x_w_go_54, x_w_go_55, x_w_go_56, x_w_go_59, x_w_go_60, x_w_go_61, x_w_go_64, x_w_go_67, x_w_go_68, x_w_go_71, x_w_go_72, hw, hw1, true_and, q_in, q_tn, upj_at, c_ge, c_lt, hge, hlt, if_false, if_true, q_add]
        refine ih (l + 1) (by omega) (by rw [hs9, ha, ht']; rfl) _ (FJ_u hF _ _) (fun k hk => ?_)
        by_cases e : k = l
        · subst e
          rw [upj_at, if_pos (by omega), tv_ok (tf_get ht'), ht']
          rfl
        · rw [upj_nk e, hS k hk]
          by_cases e2 : k < l
          · rw [if_pos e2, if_pos (by omega)]
          · rw [if_neg e2, if_neg (by omega)]
    rw [x_w_go_2]
    by_cases hr : r = 1
    · rw [if_pos hr] at hcl
      rw [hcl] at step
      simp (disch := first | assumption | omega) only [x_w_go_0, x_w_go_1, x_w_go_3, x_w_go_5, x_w_go_8, x_w_go_9, x_w_go_12, x_w_go_13, x_w_go_14, x_w_go_17, x_w_go_18, x_w_go_19, x_w_go_20, x_w_go_21, x_w_go_24, x_w_go_25, x_w_go_28, x_w_go_29, x_w_go_30, x_w_go_31, x_w_go_34, x_w_go_36, x_w_go_37, x_w_go_40, x_w_go_41, x_w_go_42, x_w_go_43, x_w_go_44, x_w_go_47, x_w_go_48, x_w_go_49, x_w_go_52, x_w_go_53, x_w_go_54, x_w_go_55, x_w_go_56, x_w_go_59, x_w_go_60, x_w_go_61, x_w_go_64, x_w_go_67, x_w_go_68, x_w_go_71, x_w_go_72, q_le, h4, if_false, hw, hw1, true_and, q_in, q_tn, hrw, q_eq, eq_true hr, if_true, hq, hq1, eq_false hqn, true_or, hRl, q_i2l, lo_n]
      exact step
    · rw [if_neg hr] at hcl
      rw [hcl] at step
      simp (disch := first | assumption | omega) only [x_w_go_0, x_w_go_1, x_w_go_3, x_w_go_5, x_w_go_8, x_w_go_9, x_w_go_12, x_w_go_13, x_w_go_14, x_w_go_17, x_w_go_18, x_w_go_19, x_w_go_20, x_w_go_21, x_w_go_24, x_w_go_25, x_w_go_28, x_w_go_29, x_w_go_30, x_w_go_31, x_w_go_34, x_w_go_36, x_w_go_37, x_w_go_40, x_w_go_41, x_w_go_42, x_w_go_43, x_w_go_44, x_w_go_47, x_w_go_48, x_w_go_49, x_w_go_52, x_w_go_53, x_w_go_54, x_w_go_55, x_w_go_56, x_w_go_59, x_w_go_60, x_w_go_61, x_w_go_64, x_w_go_67, x_w_go_68, x_w_go_71, x_w_go_72, q_le, h4, if_false, hw, hw1, true_and, q_in, q_tn, hrw, q_eq, eq_false hr, if_true, hq, hq1, eq_false hqn, true_or, hRl, q_sub, q_i2l, lo_n]
      exact step
theorem sp_w_go {q r : Nat} {R c : Nat → Nat} (hw : shp w = (4, 4)) (hw1 : shp (w + 1) = (17, 9)) (hq : shp q = (2, 10)) (hq1 : shp (q + 1) = (16, 9)) (hqn : q + 1 ≠ 1001) (hr2 : r < 2) (hf : ∀ l, l < 9 → f l < 9223372036854775808) (hn : nz (fun l => f l * c l)) (hR : ∀ l, l < 9 → iv (q + 1) l = nI (R l)) (hR2 : ∀ l, l < 9 → 1 ≤ R l ∧ R l ≤ 15) (hc : ∀ l, l < 9 → c l = if r = 1 then R l else 16 - R l) (hW : ∀ l, l < 9 → jv (w + 1) l = lN (f l)) (hQ : ao c f 9 = false → ∀ jv', FJ w jv jv' → WR w (dv (fun l => f l * c l)) jv' → Q (some (.int (nI 1))) (mk iv jv')) (h0 : ao c f 9 = true → ∀ jv', FJ w jv jv' → Q (some (.int (nI 0))) (mk iv jv')) : XM (d + 4) Yw_go [.ref w, .ref q, .int (nI r)] iv jv Q := by
  simp (disch := first | assumption | omega) only [e_w_go, x_w_go_0, x_w_go_1, x_w_go_3, x_w_go_5, x_w_go_8, x_w_go_9, x_w_go_12, x_w_go_13, x_w_go_14, x_w_go_17, x_w_go_18, x_w_go_19, x_w_go_20, x_w_go_21, x_w_go_24, x_w_go_25, x_w_go_28, x_w_go_29, x_w_go_30, x_w_go_31, x_w_go_34, x_w_go_36, x_w_go_37, x_w_go_40, x_w_go_41, x_w_go_42, x_w_go_43, x_w_go_44, x_w_go_47, x_w_go_48, x_w_go_49, x_w_go_52, x_w_go_53, x_w_go_54, x_w_go_55, x_w_go_56, x_w_go_59, x_w_go_60, x_w_go_61, x_w_go_64, x_w_go_67, x_w_go_68, x_w_go_71, x_w_go_72]
  exact lp_w_go hw hw1 hq hq1 hqn hr2 hf hn hR hR2 hc hQ h0 9 0 (by omega) rfl _ (fun _ _ _ _ => rfl) (fun k hk => by rw [if_neg (by omega)]; exact hW k hk)
/-! informs, rights -/
theorem lp_w_informs {q : Nat} {T : Nat → Nat} (hw : shp w = (4, 4)) (hw1 : shp (w + 1) = (17, 9)) (hq : shp q = (2, 10)) (hq1 : shp (q + 2) = (16, 9)) (hqn : q + 2 ≠ 1001) (hf : ∀ l, l < 9 → f l < 9223372036854775808) (hW : ∀ l, l < 9 → jv (w + 1) l = lN (f l)) (hT : ∀ l, l < 9 → iv (q + 2) l = nI (T l)) (hT2 : ∀ l, l < 9 → T l ≤ 600) : ∀ n l, l + n = 9 → XT (d + 1) Yw_informs 5 [.ref w, .ref q, .long (lo (gst f T l)), mW, .int (nI l)] [] iv jv Q = Q (some (.long (lo (gst f T 9)))) (mk iv jv) := by
  intro n
  induction n with
  | zero =>
    intro l hl
    obtain rfl : l = 9 := by omega
    rw [x_w_informs_5]
    simp (disch := first | assumption | omega) only [x_w_informs_0, x_w_informs_1, x_w_informs_2, x_w_informs_3, x_w_informs_7, x_w_informs_9, x_w_informs_12, x_w_informs_13, x_w_informs_14, x_w_informs_17, x_w_informs_19, x_w_informs_20, x_w_informs_21, x_w_informs_24, x_w_informs_26, x_w_informs_27, x_w_informs_28, x_w_informs_31, x_w_informs_34, x_w_informs_35, x_w_informs_38, x_w_informs_41, x_w_informs_42, q_le, Nat.le_refl, if_true]
  | succ n ih =>
    intro l hl
    have h4 : ¬ 9 ≤ l := by omega
    have h5 := hf l (by omega)
    have hrw := hW l (by omega)
    rw [lo_n] at hrw
    have hTl := hT l (by omega)
    have hT2l := hT2 l (by omega)
    have g1 := gst_lt f T l
    have h8 := ih (l + 1) (by omega)
    have t2 := fun (Q : Option Value → mH → Prop) => sp_e_times (d := d) (iv := iv) (jv := jv) (Q := Q) (a := (f l, false)) (b := (T l, false)) h5 (by dsimp only; omega)
    have p2 := fun (Q : Option Value → mH → Prop) => sp_e_plus (d := d) (iv := iv) (jv := jv) (Q := Q) (a := gst f T l) (b := tP (f l, false) (T l, false)) g1 (tP_lt _ _)
    simp only [gst_p] at p2
    rw [x_w_informs_5]
    simp (disch := first | assumption | omega) only [x_w_informs_0, x_w_informs_1, x_w_informs_2, x_w_informs_3, x_w_informs_7, x_w_informs_9, x_w_informs_12, x_w_informs_13, x_w_informs_14, x_w_informs_17, x_w_informs_19, x_w_informs_20, x_w_informs_21, x_w_informs_24, x_w_informs_26, x_w_informs_27, x_w_informs_28, x_w_informs_31, x_w_informs_34, x_w_informs_35, x_w_informs_38, x_w_informs_41, x_w_informs_42, q_le, h4, if_false, hw, hw1, true_and, q_in, q_tn, hrw, hq, hq1, eq_false hqn, true_or, hTl, q_i2l, lo_n, t2, XK_s, p2, q_add]
    exact h8
theorem sp_w_informs {q : Nat} {T : Nat → Nat} (hw : shp w = (4, 4)) (hw1 : shp (w + 1) = (17, 9)) (hq : shp q = (2, 10)) (hq1 : shp (q + 2) = (16, 9)) (hqn : q + 2 ≠ 1001) (hf : ∀ l, l < 9 → f l < 9223372036854775808) (hW : ∀ l, l < 9 → jv (w + 1) l = lN (f l)) (hT : ∀ l, l < 9 → iv (q + 2) l = nI (T l)) (hT2 : ∀ l, l < 9 → T l ≤ 600) : XM (d + 2) Yw_informs [.ref w, .ref q] iv jv Q = Q (some (.long (lo (gst f T 9)))) (mk iv jv) := by
  simp (disch := first | assumption | omega) only [e_w_informs, x_w_informs_0, x_w_informs_1, x_w_informs_2, x_w_informs_3, x_w_informs_7, x_w_informs_9, x_w_informs_12, x_w_informs_13, x_w_informs_14, x_w_informs_17, x_w_informs_19, x_w_informs_20, x_w_informs_21, x_w_informs_24, x_w_informs_26, x_w_informs_27, x_w_informs_28, x_w_informs_31, x_w_informs_34, x_w_informs_35, x_w_informs_38, x_w_informs_41, x_w_informs_42]
  exact lp_w_informs hw hw1 hq hq1 hqn hf hW hT hT2 9 0 (by omega)
theorem lp_w_rights {q : Nat} {T : Nat → Nat} (hw : shp w = (4, 4)) (hw1 : shp (w + 1) = (17, 9)) (hq : shp q = (2, 10)) (hq1 : shp (q + 1) = (16, 9)) (hqn : q + 1 ≠ 1001) (hf : ∀ l, l < 9 → f l < 9223372036854775808) (hW : ∀ l, l < 9 → jv (w + 1) l = lN (f l)) (hT : ∀ l, l < 9 → iv (q + 1) l = nI (T l)) (hT2 : ∀ l, l < 9 → T l ≤ 600) : ∀ n l, l + n = 9 → XT (d + 1) Yw_rights 5 [.ref w, .ref q, .long (lo (gst f T l)), mW, .int (nI l)] [] iv jv Q = Q (some (.long (lo (gst f T 9)))) (mk iv jv) := by
  intro n
  induction n with
  | zero =>
    intro l hl
    obtain rfl : l = 9 := by omega
    rw [x_w_rights_5]
    simp (disch := first | assumption | omega) only [x_w_rights_0, x_w_rights_1, x_w_rights_2, x_w_rights_3, x_w_rights_7, x_w_rights_9, x_w_rights_12, x_w_rights_13, x_w_rights_14, x_w_rights_17, x_w_rights_19, x_w_rights_20, x_w_rights_21, x_w_rights_24, x_w_rights_26, x_w_rights_27, x_w_rights_28, x_w_rights_31, x_w_rights_34, x_w_rights_35, x_w_rights_38, x_w_rights_41, x_w_rights_42, q_le, Nat.le_refl, if_true]
  | succ n ih =>
    intro l hl
    have h4 : ¬ 9 ≤ l := by omega
    have h5 := hf l (by omega)
    have hrw := hW l (by omega)
    rw [lo_n] at hrw
    have hTl := hT l (by omega)
    have hT2l := hT2 l (by omega)
    have g1 := gst_lt f T l
    have h8 := ih (l + 1) (by omega)
    have t2 := fun (Q : Option Value → mH → Prop) => sp_e_times (d := d) (iv := iv) (jv := jv) (Q := Q) (a := (f l, false)) (b := (T l, false)) h5 (by dsimp only; omega)
    have p2 := fun (Q : Option Value → mH → Prop) => sp_e_plus (d := d) (iv := iv) (jv := jv) (Q := Q) (a := gst f T l) (b := tP (f l, false) (T l, false)) g1 (tP_lt _ _)
    simp only [gst_p] at p2
    rw [x_w_rights_5]
    simp (disch := first | assumption | omega) only [x_w_rights_0, x_w_rights_1, x_w_rights_2, x_w_rights_3, x_w_rights_7, x_w_rights_9, x_w_rights_12, x_w_rights_13, x_w_rights_14, x_w_rights_17, x_w_rights_19, x_w_rights_20, x_w_rights_21, x_w_rights_24, x_w_rights_26, x_w_rights_27, x_w_rights_28, x_w_rights_31, x_w_rights_34, x_w_rights_35, x_w_rights_38, x_w_rights_41, x_w_rights_42, q_le, h4, if_false, hw, hw1, true_and, q_in, q_tn, hrw, hq, hq1, eq_false hqn, true_or, hTl, q_i2l, lo_n, t2, XK_s, p2, q_add]
    exact h8
theorem sp_w_rights {q : Nat} {T : Nat → Nat} (hw : shp w = (4, 4)) (hw1 : shp (w + 1) = (17, 9)) (hq : shp q = (2, 10)) (hq1 : shp (q + 1) = (16, 9)) (hqn : q + 1 ≠ 1001) (hf : ∀ l, l < 9 → f l < 9223372036854775808) (hW : ∀ l, l < 9 → jv (w + 1) l = lN (f l)) (hT : ∀ l, l < 9 → iv (q + 1) l = nI (T l)) (hT2 : ∀ l, l < 9 → T l ≤ 600) : XM (d + 2) Yw_rights [.ref w, .ref q] iv jv Q = Q (some (.long (lo (gst f T 9)))) (mk iv jv) := by
  simp (disch := first | assumption | omega) only [e_w_rights, x_w_rights_0, x_w_rights_1, x_w_rights_2, x_w_rights_3, x_w_rights_7, x_w_rights_9, x_w_rights_12, x_w_rights_13, x_w_rights_14, x_w_rights_17, x_w_rights_19, x_w_rights_20, x_w_rights_21, x_w_rights_24, x_w_rights_26, x_w_rights_27, x_w_rights_28, x_w_rights_31, x_w_rights_34, x_w_rights_35, x_w_rights_38, x_w_rights_41, x_w_rights_42]
  exact lp_w_rights hw hw1 hq hq1 hqn hf hW hT hT2 9 0 (by omega)
/-! mean, spread -/
theorem sp_w_mean {p : Nat} (hw : shp w = (4, 4)) (hS : WS w f 9 jv) (hn : nz f) (hp : p < 2) : XM (d + 3) Yw_mean [.ref w, .int (nI p)] iv jv Q = Q (some (.long (vMean f p))) (mk iv jv) := by
  obtain ⟨s1, s2, s3⟩ := hS
  have h := fun (Q : Option Value → mH → Prop) => sp_e_in (d := d) (iv := iv) (jv := jv) (Q := Q) (a := gst cl f 9) (b := gst c1 f 9) (p := p) (gst_lt _ _ _) (gst_lt _ _ _) (fun _ h => A_pos hn h) hp
  simp (disch := first | assumption | omega) only [e_w_mean, x_w_mean_0, x_w_mean_1, x_w_mean_4, x_w_mean_5, x_w_mean_8, x_w_mean_9, x_w_mean_12, hw, true_and, s1, s2, h, XK_s]
  rfl
def sqP (f : Nat → Nat) : Nat × Bool := tP (gst cq f 9) (gst c1 f 9)
def mmP (f : Nat → Nat) : Nat × Bool := tP (gst cl f 9) (gst cl f 9)
def abB (f : Nat → Nat) : Bool := (sqP f).2 || (mmP f).2
theorem cs3 {f : Nat → Nat} (h : abB f = false) : (mmP f).1 ≤ (sqP f).1 := by
  unfold abB sqP mmP tP at h
  simp only [Bool.or_eq_false_iff] at h
  obtain ⟨⟨⟨h1, h2⟩, h3⟩, ⟨h4, h5⟩, h6⟩ := h
  show tv (gst cl f 9).1 (gst cl f 9).1 ≤ tv (gst cq f 9).1 (gst c1 f 9).1
  rw [tv_ok (tf_get h3), tv_ok (tf_get h6), (gst_get h1).1, (gst_get h2).1, (gst_get h4).1]
  exact cs2 f 9
def abP (f : Nat → Nat) : Nat × Bool := ((sqP f).1 - (mmP f).1, abB f)
theorem sp_w_spreadAbove (hw : shp w = (4, 4)) (hS : WS w f 9 jv) : XM (d + 2) Yw_spreadAbove [.ref w] iv jv Q = Q (some (.long (lo (abP f)))) (mk iv jv) := by
  obtain ⟨s1, s2, s3⟩ := hS
  have h1 := fun (Q : Option Value → mH → Prop) => sp_e_times (d := d) (iv := iv) (jv := jv) (Q := Q) (a := gst cq f 9) (b := gst c1 f 9) (gst_lt _ _ _) (gst_lt _ _ _)
  have h2 := fun (Q : Option Value → mH → Prop) => sp_e_times (d := d) (iv := iv) (jv := jv) (Q := Q) (a := gst cl f 9) (b := gst cl f 9) (gst_lt _ _ _) (gst_lt _ _ _)
  rw [show tP (gst cq f 9) (gst c1 f 9) = sqP f from rfl] at h1
  rw [show tP (gst cl f 9) (gst cl f 9) = mmP f from rfl] at h2
  have l1 : (sqP f).1 < 9223372036854775808 := tP_lt _ _
  have l2 : (mmP f).1 < 9223372036854775808 := tP_lt _ _
  by_cases p1 : (sqP f).2 = true
  · have e : lo (abP f) = -1 := lo_t (by unfold abP abB; simp [p1])
    simp (disch := first | assumption | omega) only [e_w_spreadAbove, x_w_spreadAbove_0, x_w_spreadAbove_1, x_w_spreadAbove_4, x_w_spreadAbove_5, x_w_spreadAbove_8, x_w_spreadAbove_11, x_w_spreadAbove_12, x_w_spreadAbove_13, x_w_spreadAbove_16, x_w_spreadAbove_17, x_w_spreadAbove_20, x_w_spreadAbove_23, x_w_spreadAbove_24, x_w_spreadAbove_25, x_w_spreadAbove_26, x_w_spreadAbove_27, x_w_spreadAbove_30, x_w_spreadAbove_31, x_w_spreadAbove_32, x_w_spreadAbove_33, x_w_spreadAbove_36, x_w_spreadAbove_39, x_w_spreadAbove_42, x_w_spreadAbove_43, x_w_spreadAbove_44, x_w_spreadAbove_45, hw, true_and, s1, s2, s3, h1, h2, XK_s, c_lt, c_ge, lo_lt0, lo_ge0, p1, not_true_eq_false, if_true, if_false, e]
  · by_cases p2 : (mmP f).2 = true
    · have e : lo (abP f) = -1 := lo_t (by unfold abP abB; simp [p2])
      simp (disch := first | assumption | omega) only [e_w_spreadAbove, x_w_spreadAbove_0, x_w_spreadAbove_1, x_w_spreadAbove_4, x_w_spreadAbove_5, x_w_spreadAbove_8, x_w_spreadAbove_11, x_w_spreadAbove_12, x_w_spreadAbove_13, x_w_spreadAbove_16, x_w_spreadAbove_17, x_w_spreadAbove_20, x_w_spreadAbove_23, x_w_spreadAbove_24, x_w_spreadAbove_25, x_w_spreadAbove_26, x_w_spreadAbove_27, x_w_spreadAbove_30, x_w_spreadAbove_31, x_w_spreadAbove_32, x_w_spreadAbove_33, x_w_spreadAbove_36, x_w_spreadAbove_39, x_w_spreadAbove_42, x_w_spreadAbove_43, x_w_spreadAbove_44, x_w_spreadAbove_45, hw, true_and, s1, s2, s3, h1, h2, XK_s, c_lt, c_ge, lo_lt0, lo_ge0, p1, p2, not_true_eq_false, if_true, if_false, e, Bool.false_eq_true, not_false_eq_true]
    · have p1' : (sqP f).2 = false := by simpa using p1
      have p2' : (mmP f).2 = false := by simpa using p2
      have hab : abB f = false := by unfold abB; rw [p1', p2']; rfl
      have hcs := cs3 hab
      have e : lo (abP f) = lN ((sqP f).1 - (mmP f).1) := lo_f hab
      have e1 := lo_f p1'
      have e2 := lo_f p2'
      simp (disch := first | assumption | omega) only [e_w_spreadAbove, x_w_spreadAbove_0, x_w_spreadAbove_1, x_w_spreadAbove_4, x_w_spreadAbove_5, x_w_spreadAbove_8, x_w_spreadAbove_11, x_w_spreadAbove_12, x_w_spreadAbove_13, x_w_spreadAbove_16, x_w_spreadAbove_17, x_w_spreadAbove_20, x_w_spreadAbove_23, x_w_spreadAbove_24, x_w_spreadAbove_25, x_w_spreadAbove_26, x_w_spreadAbove_27, x_w_spreadAbove_30, x_w_spreadAbove_31, x_w_spreadAbove_32, x_w_spreadAbove_33, x_w_spreadAbove_36, x_w_spreadAbove_39, x_w_spreadAbove_42, x_w_spreadAbove_43, x_w_spreadAbove_44, x_w_spreadAbove_45, hw, true_and, s1, s2, s3, h1, h2, XK_s, c_lt, c_ge, lo_lt0, lo_ge0, p1', p2', not_true_eq_false, if_true, if_false, e, Bool.false_eq_true, not_false_eq_true, e1, e2, q_lsub, q_llt, q_lle, Nat.zero_le, Nat.not_lt_zero]
def bbP (f : Nat → Nat) : Nat × Bool := tP (gst c1 f 9) (gst c1 f 9)
theorem sp_w_spreadBelow (hw : shp w = (4, 4)) (hS : WS w f 9 jv) : XM (d + 2) Yw_spreadBelow [.ref w] iv jv Q = Q (some (.long (lo (bbP f)))) (mk iv jv) := by
  obtain ⟨s1, s2, s3⟩ := hS
  have h1 := fun (Q : Option Value → mH → Prop) => sp_e_times (d := d) (iv := iv) (jv := jv) (Q := Q) (a := gst c1 f 9) (b := gst c1 f 9) (gst_lt _ _ _) (gst_lt _ _ _)
  simp (disch := first | assumption | omega) only [e_w_spreadBelow, x_w_spreadBelow_0, x_w_spreadBelow_1, x_w_spreadBelow_4, x_w_spreadBelow_5, x_w_spreadBelow_8, x_w_spreadBelow_11, hw, true_and, s1, h1, XK_s]
  rfl
theorem abP_n {f : Nat → Nat} (h : abB f = false) : (abP f).1 = spN f := by
  unfold abB sqP mmP tP at h
  simp only [Bool.or_eq_false_iff] at h
  obtain ⟨⟨⟨h1, h2⟩, h3⟩, ⟨h4, h5⟩, h6⟩ := h
  show tv (gst cq f 9).1 (gst c1 f 9).1 - tv (gst cl f 9).1 (gst cl f 9).1 = spN f
  rw [tv_ok (tf_get h3), tv_ok (tf_get h6)]; rfl
theorem abbb (f : Nat → Nat) : (abB f || (bbP f).2) = spB f := by
  unfold abB sqP mmP bbP tP spB
  cases (gst c1 f 9).2 <;> cases (gst cl f 9).2 <;> cases (gst cq f 9).2 <;> cases tf (gst cq f 9).1 (gst c1 f 9).1 <;> cases tf (gst cl f 9).1 (gst cl f 9).1 <;> cases tf (gst c1 f 9).1 (gst c1 f 9).1 <;> rfl
/-! copyFrom -/
theorem sp_w_copyFrom {v : Nat} (hw : shp w = (4, 4)) (hw1 : shp (w + 1) = (17, 9)) (hv : shp v = (4, 4)) (hv1 : shp (v + 1) = (17, 9)) (hvw : v ≠ w) (hvw1 : v ≠ w + 1) (hR : WR v f jv) (hQ : ∀ jv', FJ w jv jv' → WR w f jv' → Q none (mk iv jv')) : XM (d + 1) Yw_copyFrom [.ref w, .ref v] iv jv Q := by
  obtain ⟨r, s1, s2, s3⟩ := hR
  have n0 : ¬ (nI 0 < 0) := by decide
  have n9 : ¬ (nI 9 < 0) := by decide
  have z0 : 0 + 9 ≤ 9 := by decide
  have hw17 : (shp (w + 1)).1 = 17 := by rw [hw1]
  simp (disch := first | assumption | omega) only [e_w_copyFrom, x_w_copyFrom_0, x_w_copyFrom_1, x_w_copyFrom_4, x_w_copyFrom_5, x_w_copyFrom_6, x_w_copyFrom_9, x_w_copyFrom_10, x_w_copyFrom_12, x_w_copyFrom_15, x_w_copyFrom_16, x_w_copyFrom_17, x_w_copyFrom_20, x_w_copyFrom_23, x_w_copyFrom_24, x_w_copyFrom_25, x_w_copyFrom_28, x_w_copyFrom_31, x_w_copyFrom_32, x_w_copyFrom_33, x_w_copyFrom_36, x_w_copyFrom_39, hw, hw1, hv, hv1, n0, n9, q_tn, z0, Nat.le_refl, not_false_eq_true, true_and]
  refine hQ _ (fun q k h1 h2 => ?_) ⟨fun l hl => ?_, ?_, ?_, ?_⟩
  · rw [upj_ne h1, upj_ne h1, upj_ne h1]
    unfold cpj; rw [if_neg h2]
  · rw [upj_ne (by omega), upj_ne (by omega), upj_ne (by omega)]
    unfold cpj
    rw [if_pos rfl, if_pos (by omega), show 0 + (l - 0) = l from by omega]
    exact r l hl
  · rw [upj_nk (by decide), upj_nk (by decide), upj_at]
    unfold cpj; rw [if_neg (by omega)]; exact s1
  · rw [upj_nk (by decide), upj_at, upj_ne hvw]
    unfold cpj; rw [if_neg (by omega)]; exact s2
  · rw [upj_at, upj_ne hvw, upj_ne hvw]
    unfold cpj; rw [if_neg (by omega)]; exact s3
end WEIGHTS3
