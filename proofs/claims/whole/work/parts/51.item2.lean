section ITEM2
variable {d : Nat} {iv : mI} {jv : mJ} {Q : Option Value → mH → Prop} {q : Nat}
def IT (q k a h s e g : Nat) (hd rp : Int32) (iv : mI) : Prop := (iv q 0 = nI k ∧ iv q 1 = nI a ∧ iv q 2 = nI h ∧ iv q 3 = nI s ∧ iv q 4 = nI e ∧ iv q 5 = nI g ∧ iv q 6 = hd ∧ iv q 7 = rp) ∧ (∀ l, l < 9 → iv (q + 1) l = nI (rightN k h s l)) ∧ (∀ l, l < 9 → iv (q + 2) l = nI (tellsN k s (rightN k h s l)))
def FQ (q : Nat) (iv iv' : mI) : Prop := ∀ a k, a ≠ q → a ≠ q + 1 → a ≠ q + 2 → iv' a k = iv a k
theorem FQ_r (q : Nat) (iv : mI) : FQ q iv iv := fun _ _ _ _ _ => rfl
theorem FQ_0 {iv iv1 : mI} (h : FQ q iv iv1) (k : Nat) (x : Int32) : FQ q iv (upi iv1 q k x) := fun a j h1 h2 h3 => by rw [upi_ne (fun z => h1 z.1)]; exact h a j h1 h2 h3
theorem FQ_1 {iv iv1 : mI} (h : FQ q iv iv1) (k : Nat) (x : Int32) : FQ q iv (upi iv1 (q + 1) k x) := fun a j h1 h2 h3 => by rw [upi_ne (fun z => h2 z.1)]; exact h a j h1 h2 h3
theorem FQ_2 {iv iv1 : mI} (h : FQ q iv iv1) (k : Nat) (x : Int32) : FQ q iv (upi iv1 (q + 2) k x) := fun a j h1 h2 h3 => by rw [upi_ne (fun z => h3 z.1)]; exact h a j h1 h2 h3
def IF8 (q k a h s e g : Nat) (hd rp : Int32) (iv : mI) : Prop := iv q 0 = nI k ∧ iv q 1 = nI a ∧ iv q 2 = nI h ∧ iv q 3 = nI s ∧ iv q 4 = nI e ∧ iv q 5 = nI g ∧ iv q 6 = hd ∧ iv q 7 = rp
theorem lp_i_become {k a h s e g : Nat} {hd rp x1 x2 x3 x4 : Int32} (hq : shp q = (2, 10)) (hq1 : shp (q + 1) = (16, 9)) (hq2 : shp (q + 2) = (16, 9)) (hn1 : q + 1 ≠ 1001) (hn2 : q + 2 ≠ 1001) (hk : k < 6) (hh : h < 9) (hs : s < 4) (hQ : ∀ iv', FQ q iv iv' → IT q k a h s e g hd rp iv' → Q none (mk iv' jv)) : ∀ n l, l + n = 9 → ∀ iv1, FQ q iv iv1 → IF8 q k a h s e g hd rp iv1 → (∀ j, j < l → iv1 (q + 1) j = nI (rightN k h s j)) → (∀ j, j < l → iv1 (q + 2) j = nI (tellsN k s (rightN k h s j))) → XT (d + 1) Yi_become 45 [.ref q, .int x1, .int x2, .int x3, .int x4, .int (nI l)] [] iv1 jv Q := by
  intro n
  induction n with
  | zero =>
    intro l hl iv1 hF h8 hr ht
    obtain rfl : l = 9 := by omega
    rw [x_i_become_45]
    simp (disch := first | assumption | omega) only [x_i_become_0, x_i_become_1, x_i_become_2, x_i_become_5, x_i_become_6, x_i_become_7, x_i_become_10, x_i_become_11, x_i_become_12, x_i_become_15, x_i_become_16, x_i_become_18, x_i_become_21, x_i_become_22, x_i_become_24, x_i_become_27, x_i_become_28, x_i_become_29, x_i_become_32, x_i_become_33, x_i_become_34, x_i_become_37, x_i_become_38, x_i_become_39, x_i_become_42, x_i_become_43, x_i_become_47, x_i_become_49, x_i_become_52, x_i_become_53, x_i_become_56, x_i_become_58, x_i_become_59, x_i_become_60, x_i_become_63, x_i_become_65, x_i_become_68, x_i_become_69, x_i_become_70, x_i_become_73, x_i_become_75, x_i_become_76, x_i_become_77, x_i_become_80, x_i_become_82, x_i_become_83, x_i_become_86, x_i_become_87, x_i_become_90, x_i_become_93, q_le, Nat.le_refl, if_true]
    exact hQ iv1 hF ⟨h8, hr, ht⟩
  | succ n ih =>
    intro l hl iv1 hF h8 hr ht
    obtain ⟨f0, f1, f2, f3, f4, f5, f6, f7⟩ := id h8
    have h4 : ¬ 9 ≤ l := by omega
    have hrn := rightN_in k h s l
    have ra := fun (Q : Option Value → mH → Prop) => sp_i_rightAs (d := d) (jv := jv) (Q := Q) hq f2 f3 hk hh hs (show l < 9 from by omega)
    have u0 : upi iv1 (q + 1) l (nI (rightN k h s l)) q 0 = nI k := by rw [upi_ne (by omega)]; exact f0
    have u3 : upi iv1 (q + 1) l (nI (rightN k h s l)) q 3 = nI s := by rw [upi_ne (by omega)]; exact f3
    have te := fun (Q : Option Value → mH → Prop) => sp_i_tellsOf (d := d) (jv := jv) (Q := Q) (r := rightN k h s l) hq u0 u3 hk hs (by omega)
    have b8 : IF8 q k a h s e g hd rp (upi (upi iv1 (q + 1) l (nI (rightN k h s l))) (q + 2) l (nI (tellsN k s (rightN k h s l)))) := by
      refine ⟨?_, ?_, ?_, ?_, ?_, ?_, ?_, ?_⟩ <;> rw [upi_ne (by omega), upi_ne (by omega)] <;> assumption
    rw [x_i_become_45]
    simp (disch := first | assumption | omega) only [x_i_become_0, x_i_become_1, x_i_become_2, x_i_become_5, x_i_become_6, x_i_become_7, x_i_become_10, x_i_become_11, x_i_become_12, x_i_become_15, x_i_become_16, x_i_become_18, x_i_become_21, x_i_become_22, x_i_become_24, x_i_become_27, x_i_become_28, x_i_become_29, x_i_become_32, x_i_become_33, x_i_become_34, x_i_become_37, x_i_become_38, x_i_become_39, x_i_become_42, x_i_become_43, x_i_become_47, x_i_become_49, x_i_become_52, x_i_become_53, x_i_become_56, x_i_become_58, x_i_become_59, x_i_become_60, x_i_become_63, x_i_become_65, x_i_become_68, x_i_become_69, x_i_become_70, x_i_become_73, x_i_become_75, x_i_become_76, x_i_become_77, x_i_become_80, x_i_become_82, x_i_become_83, x_i_become_86, x_i_become_87, x_i_become_90, x_i_become_93, q_le, h4, if_false, hq, hq1, hq2, eq_false hn1, eq_false hn2, true_and, true_or, q_in, q_tn, f0, ra, XK_s, upi_at, te, q_add]
    refine ih (l + 1) (by omega) _ (FQ_2 (FQ_1 hF _ _) _ _) b8 (fun j hj => ?_) (fun j hj => ?_)
    · rw [upi_ne (by omega)]
      by_cases ej : j = l
      · subst ej; rw [upi_at]
      · rw [upi_ne (by omega)]; exact hr j (by omega)
    · by_cases ej : j = l
      · subst ej; rw [upi_at]
      · rw [upi_ne (by omega), upi_ne (by omega)]; exact ht j (by omega)
theorem sp_i_become {k a h s : Nat} (hq : shp q = (2, 10)) (hq1 : shp (q + 1) = (16, 9)) (hq2 : shp (q + 2) = (16, 9)) (hn1 : q + 1 ≠ 1001) (hn2 : q + 2 ≠ 1001) (hk : k < 6) (hh : h < 9) (hs : s < 4) (hQ : ∀ iv', FQ q iv iv' → IT q k a h s 10 0 (nI 0) (-1) iv' → Q none (mk iv' jv)) : XM (d + 2) Yi_become [.ref q, .int (nI k), .int (nI a), .int (nI h), .int (nI s)] iv jv Q := by
  simp (disch := first | assumption | omega) only [e_i_become, x_i_become_0, x_i_become_1, x_i_become_2, x_i_become_5, x_i_become_6, x_i_become_7, x_i_become_10, x_i_become_11, x_i_become_12, x_i_become_15, x_i_become_16, x_i_become_18, x_i_become_21, x_i_become_22, x_i_become_24, x_i_become_27, x_i_become_28, x_i_become_29, x_i_become_32, x_i_become_33, x_i_become_34, x_i_become_37, x_i_become_38, x_i_become_39, x_i_become_42, x_i_become_43, x_i_become_47, x_i_become_49, x_i_become_52, x_i_become_53, x_i_become_56, x_i_become_58, x_i_become_59, x_i_become_60, x_i_become_63, x_i_become_65, x_i_become_68, x_i_become_69, x_i_become_70, x_i_become_73, x_i_become_75, x_i_become_76, x_i_become_77, x_i_become_80, x_i_become_82, x_i_become_83, x_i_become_86, x_i_become_87, x_i_become_90, x_i_become_93, hq, true_and, z01, true_or]
  refine lp_i_become hq hq1 hq2 hn1 hn2 hk hh hs hQ 9 0 (by omega) _ (FQ_0 (FQ_0 (FQ_0 (FQ_0 (FQ_0 (FQ_0 (FQ_0 (FQ_0 (FQ_r q iv) _ _) _ _) _ _) _ _) _ _) _ _) _ _) _ _) ?_ (fun j hj => absurd hj (by omega)) (fun j hj => absurd hj (by omega))
  unfold IF8 upi
  simp
theorem sp_i_isFree (hq : shp q = (2, 10)) (h6 : iv q 6 = nI 0 ∨ iv q 6 = nI 1) : XM (d + 1) Yi_isFree [.ref q] iv jv Q = Q (some (.int (b01 (iv q 6 = nI 0 ∧ iv q 7 = -1)))) (mk iv jv) := by
  simp (disch := first | assumption | omega) only [e_i_isFree, x_i_isFree_0, x_i_isFree_1, x_i_isFree_4, x_i_isFree_7, x_i_isFree_8, x_i_isFree_11, x_i_isFree_12, x_i_isFree_15, x_i_isFree_16, x_i_isFree_19, x_i_isFree_20, hq, true_and, z01, z11, true_or, or_true]
  by_cases h1 : iv q 6 = nI 0
  · by_cases h2 : iv q 7 = -1
    · simp [h1, h2, b01]
    · simp [h1, h2, b01]
  · simp [h1, b01]
/-! a SHEET's row -/
theorem sp_h_isMissing (hq : shp q = (3, 3)) : XM (d + 1) Yh_isMissing [.ref q] iv jv Q = Q (some (.int (b01 (iv q 0 = -1)))) (mk iv jv) := by
  simp (disch := first | assumption | omega) only [e_h_isMissing, x_h_isMissing_0, x_h_isMissing_1, x_h_isMissing_4, x_h_isMissing_5, x_h_isMissing_8, x_h_isMissing_9, x_h_isMissing_12, x_h_isMissing_13, hq, true_and, z01, z11, true_or, or_true]
  by_cases h2 : iv q 0 = -1
  · simp [h2, b01]
  · simp [h2, b01]
end ITEM2
