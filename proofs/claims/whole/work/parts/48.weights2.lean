section WEIGHTS2
variable {d : Nat} {iv : mI} {jv : mJ} {Q : Option Value → mH → Prop} {f : Nat → Nat} {w : Nat}
theorem sp_w_sumUp (hw : shp w = (4, 4)) (hw1 : shp (w + 1) = (17, 9)) (hf : ∀ l, l < 9 → f l < 9223372036854775808) (hW : ∀ l, l < 9 → jv (w + 1) l = lN (f l)) (hQ : ∀ jv', (∀ q k, q ≠ w → jv' q k = jv q k) → WR w f jv' → Q none (mk iv jv')) : XM (d + 2) Yw_sumUp [.ref w] iv jv Q := by
  simp (disch := first | assumption | omega) only [e_w_sumUp, x_w_sumUp_0, x_w_sumUp_1, x_w_sumUp_2, x_w_sumUp_5, x_w_sumUp_6, x_w_sumUp_7, x_w_sumUp_10, x_w_sumUp_11, x_w_sumUp_12, x_w_sumUp_15, x_w_sumUp_16, x_w_sumUp_18, x_w_sumUp_20, x_w_sumUp_23, x_w_sumUp_24, x_w_sumUp_25, x_w_sumUp_28, x_w_sumUp_29, x_w_sumUp_32, x_w_sumUp_33, x_w_sumUp_34, x_w_sumUp_37, x_w_sumUp_40, x_w_sumUp_41, x_w_sumUp_42, x_w_sumUp_45, x_w_sumUp_46, x_w_sumUp_47, x_w_sumUp_48, x_w_sumUp_51, x_w_sumUp_52, x_w_sumUp_53, x_w_sumUp_56, x_w_sumUp_59, x_w_sumUp_62, x_w_sumUp_63, x_w_sumUp_64, x_w_sumUp_67, x_w_sumUp_68, x_w_sumUp_69, x_w_sumUp_70, x_w_sumUp_71, x_w_sumUp_72, x_w_sumUp_75, x_w_sumUp_76, x_w_sumUp_77, x_w_sumUp_80, x_w_sumUp_83, x_w_sumUp_86, x_w_sumUp_89, x_w_sumUp_92, hw, true_and]
  refine lp_w_sumUp (jv := jv) hw hw1 hf hW (fun jv' h1 h2 => hQ jv' h1 ⟨fun l hl => (h1 _ _ (by omega)).trans (hW l hl), h2⟩) 9 0 (by omega) _ (fun q k hq => ?_) ⟨?_, ?_, ?_⟩
  · rw [upj_ne hq, upj_ne hq, upj_ne hq]
  · rw [upj_nk (by decide), upj_nk (by decide), upj_at]; rfl
  · rw [upj_nk (by decide), upj_at]; rfl
  · rw [upj_at]; rfl
def FJ (w : Nat) (jv jv' : mJ) : Prop := ∀ q k, q ≠ w → q ≠ w + 1 → jv' q k = jv q k
theorem FJ_1 {jv jv' : mJ} (h : ∀ q k, q ≠ w → jv' q k = jv q k) : FJ w jv jv' := fun q k h1 _ => h q k h1
theorem FJ_t {jv jv1 jv2 : mJ} (h : FJ w jv jv1) (h' : FJ w jv1 jv2) : FJ w jv jv2 := fun q k h1 h2 => (h' q k h1 h2).trans (h q k h1 h2)
theorem FJ_u {jv jv1 : mJ} (h : FJ w jv jv1) (k : Nat) (x : Int64) : FJ w jv (upj jv1 (w + 1) k x) := fun q j h1 h2 => by rw [upj_ne h2]; exact h q j h1 h2
theorem lp_w_lower1 (hw : shp w = (4, 4)) (hw1 : shp (w + 1) = (17, 9)) (hf : ∀ l, l < 9 → f l < 9223372036854775808) (hg : ∀ n, n ≤ 9 → gcn f n < 9223372036854775808) (hW : ∀ l, l < 9 → jv (w + 1) l = lN (f l)) : ∀ n l, l + n = 9 → XT (d + 1) Yw_lower 4 [.ref w, .long (lN (gcn f l)), mW, .int (nI l)] [] iv jv Q = XT (d + 1) Yw_lower 4 [.ref w, .long (lN (gcn f 9)), mW, .int (nI 9)] [] iv jv Q := by
  intro n
  induction n with
  | zero => intro l hl; obtain rfl : l = 9 := by omega
            rfl
  | succ n ih =>
    intro l hl
    have h4 : ¬ 9 ≤ l := by omega
    have h5 := hf l (by omega)
    have h6 := hg l (by omega)
    have hr := hW l (by omega)
    have e : Nat.gcd (f l) (gcn f l) = gcn f (l + 1) := Nat.gcd_comm _ _
    rw [← ih (l + 1) (by omega), x_w_lower_4]
    simp (disch := first | assumption | omega) only [x_w_lower_0, x_w_lower_1, x_w_lower_2, x_w_lower_3, x_w_lower_5, x_w_lower_7, x_w_lower_10, x_w_lower_11, x_w_lower_14, x_w_lower_15, x_w_lower_16, x_w_lower_17, x_w_lower_20, x_w_lower_21, x_w_lower_24, x_w_lower_27, x_w_lower_28, x_w_lower_30, x_w_lower_32, x_w_lower_35, x_w_lower_36, x_w_lower_37, x_w_lower_38, x_w_lower_41, x_w_lower_42, x_w_lower_45, x_w_lower_46, x_w_lower_47, x_w_lower_48, x_w_lower_49, x_w_lower_50, x_w_lower_51, x_w_lower_54, x_w_lower_57, x_w_lower_58, x_w_lower_61, q_le, h4, if_false, hw, hw1, true_and, q_in, q_tn, hr, sp_e_common, XK_s, e, q_add]
theorem lp_w_lower2 {D : Nat} (hw : shp w = (4, 4)) (hw1 : shp (w + 1) = (17, 9)) (hf : ∀ l, l < 9 → f l < 9223372036854775808) (h1 : 1 < D) (h2 : D < 9223372036854775808) (hW : ∀ l, l < 9 → jv (w + 1) l = lN (f l)) (hQ : ∀ jv', FJ w jv jv' → WR w (fun l => f l / D) jv' → Q none (mk iv jv')) : ∀ n l, l + n = 9 → ∀ jv1, FJ w jv jv1 → (∀ k, k < 9 → jv1 (w + 1) k = if k < l then lN (f k / D) else lN (f k)) → XT (d + 2) Yw_lower 29 [.ref w, .long (lN D), mW, .int (nI l)] [] iv jv1 Q := by
  intro n
  induction n with
  | zero =>
    intro l hl jv1 hF hS
    obtain rfl : l = 9 := by omega
    rw [x_w_lower_29]
    simp (disch := first | assumption | omega) only [x_w_lower_0, x_w_lower_1, x_w_lower_2, x_w_lower_3, x_w_lower_5, x_w_lower_7, x_w_lower_10, x_w_lower_11, x_w_lower_14, x_w_lower_15, x_w_lower_16, x_w_lower_17, x_w_lower_20, x_w_lower_21, x_w_lower_24, x_w_lower_27, x_w_lower_28, x_w_lower_30, x_w_lower_32, x_w_lower_35, x_w_lower_36, x_w_lower_37, x_w_lower_38, x_w_lower_41, x_w_lower_42, x_w_lower_45, x_w_lower_46, x_w_lower_47, x_w_lower_48, x_w_lower_49, x_w_lower_50, x_w_lower_51, x_w_lower_54, x_w_lower_57, x_w_lower_58, x_w_lower_61, q_le, Nat.le_refl, if_true, hw, true_and]
    refine sp_w_sumUp (f := fun l => f l / D) hw hw1 (fun l hl => Nat.lt_of_le_of_lt (Nat.div_le_self _ _) (hf l hl)) (fun l hl => by rw [hS l hl, if_pos hl]) (fun jv' h3 h4 => ?_)
    simp only [XK_n, x_w_lower_0, x_w_lower_1, x_w_lower_2, x_w_lower_3, x_w_lower_5, x_w_lower_7, x_w_lower_10, x_w_lower_11, x_w_lower_14, x_w_lower_15, x_w_lower_16, x_w_lower_17, x_w_lower_20, x_w_lower_21, x_w_lower_24, x_w_lower_27, x_w_lower_28, x_w_lower_30, x_w_lower_32, x_w_lower_35, x_w_lower_36, x_w_lower_37, x_w_lower_38, x_w_lower_41, x_w_lower_42, x_w_lower_45, x_w_lower_46, x_w_lower_47, x_w_lower_48, x_w_lower_49, x_w_lower_50, x_w_lower_51, x_w_lower_54, x_w_lower_57, x_w_lower_58, x_w_lower_61]
    exact hQ jv' (FJ_t hF (FJ_1 h3)) h4
  | succ n ih =>
    intro l hl jv1 hF hS
    have h4 : ¬ 9 ≤ l := by omega
    have h5 := hf l (by omega)
    have hr := hS l (by omega)
    rw [if_neg (by omega)] at hr
    have hD : ¬ D ≤ 1 := by omega
    have hD0 : ¬ D = 0 := by omega
    rw [x_w_lower_29]
    simp (disch := first | assumption | omega) only [x_w_lower_0, x_w_lower_1, x_w_lower_2, x_w_lower_3, x_w_lower_5, x_w_lower_7, x_w_lower_10, x_w_lower_11, x_w_lower_14, x_w_lower_15, x_w_lower_16, x_w_lower_17, x_w_lower_20, x_w_lower_21, x_w_lower_24, x_w_lower_27, x_w_lower_28, x_w_lower_30, x_w_lower_32, x_w_lower_35, x_w_lower_36, x_w_lower_37, x_w_lower_38, x_w_lower_41, x_w_lower_42, x_w_lower_45, x_w_lower_46, x_w_lower_47, x_w_lower_48, x_w_lower_49, x_w_lower_50, x_w_lower_51, x_w_lower_54, x_w_lower_57, x_w_lower_58, x_w_lower_61, q_le, h4, if_false, c_le, q_lle, hD, hw, hw1, true_and, q_in, q_tn, hr, q_lne0, hD0, not_false_eq_true, q_ldiv, q_add]
    refine ih (l + 1) (by omega) _ (FJ_u hF _ _) (fun k hk => ?_)
    by_cases e : k = l
    · subst e; rw [upj_at, if_pos (by omega)]
    · rw [upj_nk e, hS k hk]
      by_cases e2 : k < l
      · rw [if_pos e2, if_pos (by omega)]
      · rw [if_neg e2, if_neg (by omega)]
theorem sp_w_lower (hw : shp w = (4, 4)) (hw1 : shp (w + 1) = (17, 9)) (hf : ∀ l, l < 9 → f l < 9223372036854775808) (hn : nz f) (hW : ∀ l, l < 9 → jv (w + 1) l = lN (f l)) (hQ : ∀ jv', FJ w jv jv' → WR w (dv f) jv' → Q none (mk iv jv')) : XM (d + 3) Yw_lower [.ref w] iv jv Q := by
  have hg := gcn_lt hf
  have h0 := gcn_pos hn
  have h9 := hg 9 (by decide)
  simp (disch := first | assumption | omega) only [e_w_lower, x_w_lower_0, x_w_lower_1, x_w_lower_2, x_w_lower_3, x_w_lower_5, x_w_lower_7, x_w_lower_10, x_w_lower_11, x_w_lower_14, x_w_lower_15, x_w_lower_16, x_w_lower_17, x_w_lower_20, x_w_lower_21, x_w_lower_24, x_w_lower_27, x_w_lower_28, x_w_lower_30, x_w_lower_32, x_w_lower_35, x_w_lower_36, x_w_lower_37, x_w_lower_38, x_w_lower_41, x_w_lower_42, x_w_lower_45, x_w_lower_46, x_w_lower_47, x_w_lower_48, x_w_lower_49, x_w_lower_50, x_w_lower_51, x_w_lower_54, x_w_lower_57, x_w_lower_58, x_w_lower_61]
  refine (lp_w_lower1 hw hw1 hf hg hW 9 0 (by omega)).mpr ?_
  rw [x_w_lower_4]
  simp (disch := first | assumption | omega) only [x_w_lower_0, x_w_lower_1, x_w_lower_2, x_w_lower_3, x_w_lower_5, x_w_lower_7, x_w_lower_10, x_w_lower_11, x_w_lower_14, x_w_lower_15, x_w_lower_16, x_w_lower_17, x_w_lower_20, x_w_lower_21, x_w_lower_24, x_w_lower_27, x_w_lower_28, x_w_lower_30, x_w_lower_32, x_w_lower_35, x_w_lower_36, x_w_lower_37, x_w_lower_38, x_w_lower_41, x_w_lower_42, x_w_lower_45, x_w_lower_46, x_w_lower_47, x_w_lower_48, x_w_lower_49, x_w_lower_50, x_w_lower_51, x_w_lower_54, x_w_lower_57, x_w_lower_58, x_w_lower_61, q_le, Nat.le_refl, if_true]
  by_cases h1 : 1 < gcn f 9
  · exact lp_w_lower2 hw hw1 hf h1 h9 hW hQ 9 0 (by omega) _ (fun _ _ _ _ => rfl) (fun k hk => by rw [if_neg (by omega)]; exact hW k hk)
  · have e1 : gcn f 9 = 1 := by omega
    have e2 : dv f = f := by funext l; unfold dv; rw [e1, Nat.div_one]
    rw [e2] at hQ
    have h4 : ¬ 9 ≤ 0 := by omega
    rw [x_w_lower_29]
    simp (disch := first | assumption | omega) only [x_w_lower_0, x_w_lower_1, x_w_lower_2, x_w_lower_3, x_w_lower_5, x_w_lower_7, x_w_lower_10, x_w_lower_11, x_w_lower_14, x_w_lower_15, x_w_lower_16, x_w_lower_17, x_w_lower_20, x_w_lower_21, x_w_lower_24, x_w_lower_27, x_w_lower_28, x_w_lower_30, x_w_lower_32, x_w_lower_35, x_w_lower_36, x_w_lower_37, x_w_lower_38, x_w_lower_41, x_w_lower_42, x_w_lower_45, x_w_lower_46, x_w_lower_47, x_w_lower_48, x_w_lower_49, x_w_lower_50, x_w_lower_51, x_w_lower_54, x_w_lower_57, x_w_lower_58, x_w_lower_61, q_le, h4, if_false, e1, c_le, q_lle, Nat.le_refl, if_true, hw, true_and]
    refine sp_w_sumUp hw hw1 hf hW (fun jv' h3 h4 => ?_)
    simp only [XK_n, x_w_lower_0, x_w_lower_1, x_w_lower_2, x_w_lower_3, x_w_lower_5, x_w_lower_7, x_w_lower_10, x_w_lower_11, x_w_lower_14, x_w_lower_15, x_w_lower_16, x_w_lower_17, x_w_lower_20, x_w_lower_21, x_w_lower_24, x_w_lower_27, x_w_lower_28, x_w_lower_30, x_w_lower_32, x_w_lower_35, x_w_lower_36, x_w_lower_37, x_w_lower_38, x_w_lower_41, x_w_lower_42, x_w_lower_45, x_w_lower_46, x_w_lower_47, x_w_lower_48, x_w_lower_49, x_w_lower_50, x_w_lower_51, x_w_lower_54, x_w_lower_57, x_w_lower_58, x_w_lower_61]
    exact hQ jv' (FJ_1 h3) h4
/-! become -/
theorem lp_w_become {p : Nat} (hw : shp w = (4, 4)) (hw1 : shp (w + 1) = (17, 9)) (hp : shp p = (16, 9)) (hp1 : p ≠ 1001) (hf : ∀ l, l < 9 → f l < 2147483648) (hP : ∀ l, l < 9 → iv p l = nI (f l)) (hQ : ∀ jv', FJ w jv jv' → WR w f jv' → Q none (mk iv jv')) : ∀ n l, l + n = 9 → ∀ jv1, FJ w jv jv1 → (∀ k, k < l → jv1 (w + 1) k = lN (f k)) → XT (d + 2) Yw_become 2 [.ref w, .ref p, .int (nI l)] [] iv jv1 Q := by
  intro n
  induction n with
  | zero =>
    intro l hl jv1 hF hS
    obtain rfl : l = 9 := by omega
    rw [x_w_become_2]
    simp (disch := first | assumption | omega) only [x_w_become_0, x_w_become_1, x_w_become_3, x_w_become_5, x_w_become_8, x_w_become_9, x_w_become_10, x_w_become_11, x_w_become_14, x_w_become_15, x_w_become_18, x_w_become_19, x_w_become_20, x_w_become_21, x_w_become_22, x_w_become_23, x_w_become_24, x_w_become_27, x_w_become_30, x_w_become_31, x_w_become_34, q_le, Nat.le_refl, if_true, hw, true_and]
    refine sp_w_sumUp (f := f) hw hw1 (fun l hl => by have := hf l hl; omega) hS (fun jv' h3 h4 => ?_)
    simp only [XK_n, x_w_become_0, x_w_become_1, x_w_become_3, x_w_become_5, x_w_become_8, x_w_become_9, x_w_become_10, x_w_become_11, x_w_become_14, x_w_become_15, x_w_become_18, x_w_become_19, x_w_become_20, x_w_become_21, x_w_become_22, x_w_become_23, x_w_become_24, x_w_become_27, x_w_become_30, x_w_become_31, x_w_become_34]
    exact hQ jv' (FJ_t hF (FJ_1 h3)) h4
  | succ n ih =>
    intro l hl jv1 hF hS
    have h4 : ¬ 9 ≤ l := by omega
    have h5 := hf l (by omega)
    have hr := hP l (by omega)
    rw [x_w_become_2]
    simp (disch := first | assumption | omega) only [x_w_become_0, x_w_become_1, x_w_become_3, x_w_become_5, x_w_become_8, x_w_become_9, x_w_become_10, x_w_become_11, x_w_become_14, x_w_become_15, x_w_become_18, x_w_become_19, x_w_become_20, x_w_become_21, x_w_become_22, x_w_become_23, x_w_become_24, x_w_become_27, x_w_become_30, x_w_become_31, x_w_become_34, q_le, h4, if_false, hw, hw1, hp, eq_false hp1, true_and, true_or, q_in, q_tn, hr, q_i2l, q_add]
    refine ih (l + 1) (by omega) _ (FJ_u hF _ _) (fun k hk => ?_)
    by_cases e : k = l
    · subst e; rw [upj_at]
    · rw [upj_nk e]; exact hS k (by omega)
theorem sp_w_become {p : Nat} (hw : shp w = (4, 4)) (hw1 : shp (w + 1) = (17, 9)) (hp : shp p = (16, 9)) (hp1 : p ≠ 1001) (hf : ∀ l, l < 9 → f l < 2147483648) (hP : ∀ l, l < 9 → iv p l = nI (f l)) (hQ : ∀ jv', FJ w jv jv' → WR w f jv' → Q none (mk iv jv')) : XM (d + 3) Yw_become [.ref w, .ref p] iv jv Q := by
  simp (disch := first | assumption | omega) only [e_w_become, x_w_become_0, x_w_become_1, x_w_become_3, x_w_become_5, x_w_become_8, x_w_become_9, x_w_become_10, x_w_become_11, x_w_become_14, x_w_become_15, x_w_become_18, x_w_become_19, x_w_become_20, x_w_become_21, x_w_become_22, x_w_become_23, x_w_become_24, x_w_become_27, x_w_become_30, x_w_become_31, x_w_become_34]
  exact lp_w_become hw hw1 hp hp1 hf hP hQ 9 0 (by omega) _ (fun _ _ _ _ => rfl) (fun k hk => absurd hk (by omega))
/-! heaviest -/
theorem lp_w_heaviest (hw : shp w = (4, 4)) (hw1 : shp (w + 1) = (17, 9)) (hf : ∀ l, l < 9 → f l < 9223372036854775808) (hW : ∀ l, l < 9 → jv (w + 1) l = lN (f l)) : ∀ n l, l + n = 9 → 1 ≤ l → XT d Yw_heaviest 4 [.ref w, .int (nI (mdF f (l - 1))), .int (nI l)] [] iv jv Q = Q (some (.int (nI (mdF f 8)))) (mk iv jv) := by
  intro n
  induction n with
  | zero =>
    intro l hl h1
    obtain rfl : l = 9 := by omega
    rw [x_w_heaviest_4]
    simp (disch := first | assumption | omega) only [x_w_heaviest_0, x_w_heaviest_1, x_w_heaviest_2, x_w_heaviest_3, x_w_heaviest_5, x_w_heaviest_7, x_w_heaviest_10, x_w_heaviest_11, x_w_heaviest_14, x_w_heaviest_15, x_w_heaviest_16, x_w_heaviest_17, x_w_heaviest_20, x_w_heaviest_21, x_w_heaviest_22, x_w_heaviest_23, x_w_heaviest_26, x_w_heaviest_27, x_w_heaviest_28, x_w_heaviest_31, x_w_heaviest_34, x_w_heaviest_35, q_le, Nat.le_refl, if_true]
  | succ n ih =>
    intro l hl h1
    have h4 : ¬ 9 ≤ l := by omega
    have hm := mdF_le f (l - 1)
    have h8 := ih (l + 1) (by omega) (by omega)
    have a1 := hf l (by omega)
    have a2 := hf (mdF f (l - 1)) (by omega)
    have r1 := hW l (by omega)
    have r2 := hW (mdF f (l - 1)) (by omega)
    have e1 : l + 1 - 1 = (l - 1) + 1 := by omega
    have e2 : l - 1 + 1 = l := by omega
    have e3 : mdF f (l - 1 + 1) = if f (mdF f (l - 1)) < f l then l else mdF f (l - 1) := by
      show (if f (mdF f (l - 1)) < f (l - 1 + 1) then l - 1 + 1 else _) = _
      rw [e2]
    rw [e1, e3] at h8
    rw [x_w_heaviest_4]
    simp (disch := first | assumption | omega) only [x_w_heaviest_0, x_w_heaviest_1, x_w_heaviest_2, x_w_heaviest_3, x_w_heaviest_5, x_w_heaviest_7, x_w_heaviest_10, x_w_heaviest_11, x_w_heaviest_14, x_w_heaviest_15, x_w_heaviest_16, x_w_heaviest_17, x_w_heaviest_20, x_w_heaviest_21, x_w_heaviest_22, x_w_heaviest_23, x_w_heaviest_26, x_w_heaviest_27, x_w_heaviest_28, x_w_heaviest_31, x_w_heaviest_34, x_w_heaviest_35, q_le, h4, if_false, hw, hw1, true_and, q_in, q_tn, r1, r2, c_gt, c_le, q_llt, q_lle]
    by_cases h : f (mdF f (l - 1)) < f l
    · have h' : ¬ f l ≤ f (mdF f (l - 1)) := by omega
      rw [if_pos h] at h8
      simp (disch := first | assumption | omega) only [h, h', if_true, if_false, q_add]
      exact h8
    · have h' : f l ≤ f (mdF f (l - 1)) := by omega
      rw [if_neg h] at h8
      simp (disch := first | assumption | omega) only [h, h', if_true, if_false, q_add]
      exact h8
theorem sp_w_heaviest (hw : shp w = (4, 4)) (hw1 : shp (w + 1) = (17, 9)) (hf : ∀ l, l < 9 → f l < 9223372036854775808) (hW : ∀ l, l < 9 → jv (w + 1) l = lN (f l)) : XM (d + 1) Yw_heaviest [.ref w] iv jv Q = Q (some (.int (nI (mdF f 8)))) (mk iv jv) := by
  simp (disch := first | assumption | omega) only [e_w_heaviest, x_w_heaviest_0, x_w_heaviest_1, x_w_heaviest_2, x_w_heaviest_3, x_w_heaviest_5, x_w_heaviest_7, x_w_heaviest_10, x_w_heaviest_11, x_w_heaviest_14, x_w_heaviest_15, x_w_heaviest_16, x_w_heaviest_17, x_w_heaviest_20, x_w_heaviest_21, x_w_heaviest_22, x_w_heaviest_23, x_w_heaviest_26, x_w_heaviest_27, x_w_heaviest_28, x_w_heaviest_31, x_w_heaviest_34, x_w_heaviest_35]
  exact lp_w_heaviest hw hw1 hf hW 8 1 (by omega) (by omega)
end WEIGHTS2
