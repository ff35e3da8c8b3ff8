section TELL
variable {d : Nat} {iv : mI} {jv : mJ} {Q : Option Value → mH → Prop} {G : Nat → Nat} {C : Nat → Int32} {x y : Int32} {k n : Nat}
def fac (G : Nat → Nat) (C : Nat → Int32) (x : Int32) (k : Nat) (y : Int32) (l i : Nat) : Nat :=
  if (C i = nI 1) ↔ (nI i = y) then 16 - rightN (if nI i = x then k else G (37 + 6 * i)) (G (37 + 6 * i + 2)) (G (37 + 6 * i + 3)) l else rightN (if nI i = x then k else G (37 + 6 * i)) (G (37 + 6 * i + 2)) (G (37 + 6 * i + 3)) l
def pr (G : Nat → Nat) (C : Nat → Int32) (x : Int32) (k : Nat) (y : Int32) (l : Nat) : Nat → Nat
  | 0 => 1
  | n + 1 => pr G C x k y l n * fac G C x k y l n
theorem pr_s (G : Nat → Nat) (C : Nat → Int32) (x : Int32) (k : Nat) (y : Int32) (l n : Nat) : pr G C x k y l (n + 1) = pr G C x k y l n * fac G C x k y l n := rfl
theorem fac_in (G : Nat → Nat) (C : Nat → Int32) (x : Int32) (k : Nat) (y : Int32) (l i : Nat) : 1 ≤ fac G C x k y l i ∧ fac G C x k y l i ≤ 15 := by
  have := rightN_in (if nI i = x then k else G (37 + 6 * i)) (G (37 + 6 * i + 2)) (G (37 + 6 * i + 3)) l
  unfold fac
  split <;> omega
theorem pr_le (G : Nat → Nat) (C : Nat → Int32) (x : Int32) (k : Nat) (y : Int32) (l : Nat) : ∀ n, pr G C x k y l n ≤ 15 ^ n
  | 0 => Nat.le_refl _
  | n + 1 => by
    rw [pr_s, Nat.pow_succ]
    exact Nat.mul_le_mul (pr_le G C x k y l n) (fac_in G C x k y l n).2
theorem pr_lt (G : Nat → Nat) (C : Nat → Int32) (x : Int32) (k : Nat) (y : Int32) (l : Nat) {n : Nat} (hn : n ≤ 8) : pr G C x k y l n < 9223372036854775808 := by
  have h1 := pr_le G C x k y l n
  have h2 : 15 ^ n ≤ 15 ^ 8 := Nat.pow_le_pow_right (by decide) hn
  exact Nat.lt_of_le_of_lt (Nat.le_trans h1 h2) (by decide)
theorem lp_m_product {s l : Nat} (hG : ∀ k, k < 101 → jv 119 k = lN (G k)) (hB : IB G) (hs : s < 4) (hl : l < 9) (hZ : iv 124 s = nI n) (hn : n ≤ 8) (hC : ∀ i, i < n → iv 125 (40 * s + i) = C i) (hx : iv 118 12 = x) (hk : x = -1 ∨ (iv 118 13 = nI k ∧ k < 6)) (hy : iv 118 14 = y) : ∀ m i, i + m = n → ∀ u6 u7, XT (d + 2) Ym_product 5 [.ref 118, .int (nI s), .int (nI l), .long (lN (pr G C x k y l i)), mW, .int (nI i), u6, u7] [] iv jv Q = Q (some (.long (lN (pr G C x k y l n)))) (mk iv jv) := by
  intro m
  induction m with
  | zero =>
    intro i hi u6 u7
    obtain rfl : i = n := by omega
    rw [x_m_product_5]
    simp (disch := first | assumption | omega) only [x_m_product_0, x_m_product_1, x_m_product_2, x_m_product_3, x_m_product_7, x_m_product_8, x_m_product_11, x_m_product_12, x_m_product_13, x_m_product_16, x_m_product_18, x_m_product_19, x_m_product_22, x_m_product_25, x_m_product_26, x_m_product_29, x_m_product_32, x_m_product_33, x_m_product_35, x_m_product_36, x_m_product_39, x_m_product_40, x_m_product_42, x_m_product_43, x_m_product_46, x_m_product_47, x_m_product_49, x_m_product_50, x_m_product_53, x_m_product_54, x_m_product_57, x_m_product_59, x_m_product_60, x_m_product_63, x_m_product_65, x_m_product_66, x_m_product_67, x_m_product_69, x_m_product_70, x_m_product_71, x_m_product_72, x_m_product_75, x_m_product_76, x_m_product_79, x_m_product_80, x_m_product_82, x_m_product_83, x_m_product_86, x_m_product_89, x_m_product_90, x_m_product_93, x_m_product_94, x_m_product_97, x_m_product_98, x_m_product_101, x_m_product_102, x_m_product_104, x_m_product_105, x_m_product_107, x_m_product_110, x_m_product_112, x_m_product_113, x_m_product_116, x_m_product_118, x_m_product_120, x_m_product_121, x_m_product_122, x_m_product_123, x_m_product_124, x_m_product_127, x_m_product_130, x_m_product_131, q_in, q_tn, true_and, hZ, q_le, Nat.le_refl, if_true]
  | succ m ih =>
    intro i hi u6 u7
    have h4 : ¬ n ≤ i := by omega
    have hi8 : i < 8 := by omega
    have g1 := hG (37 + 6 * i) (by omega)
    have g3 := hG (37 + 6 * i + 2) (by omega)
    have g4 := hG (37 + 6 * i + 3) (by omega)
    have e0 : 37 + 6 * i + 0 = 37 + 6 * i := rfl
    have b4 := hB.2.2.2.1 i hi8
    have hc := hC i (by omega)
    have h8 := ih (i + 1) (by omega)
    have fin := fac_in G C x k y l i
    rw [pr_s] at h8
    have hr := rightN_in (if nI i = x then k else G (37 + 6 * i)) (G (37 + 6 * i + 2)) (G (37 + 6 * i + 3)) l
    rw [x_m_product_5]
    by_cases p1 : nI i = x
    · have hk' : iv 118 13 = nI k ∧ k < 6 := by
        rcases hk with h | h
        · rw [h, nm0' (by omega)] at p1; exact p1.elim
        · exact h
      obtain ⟨hk1, hk2⟩ := hk'
      rw [if_pos p1] at hr
      simp (disch := first | assumption | omega) only [x_m_product_0, x_m_product_1, x_m_product_2, x_m_product_3, x_m_product_7, x_m_product_8, x_m_product_11, x_m_product_12, x_m_product_13, x_m_product_16, x_m_product_18, x_m_product_19, x_m_product_22, x_m_product_25, x_m_product_26, x_m_product_29, x_m_product_32, x_m_product_33, x_m_product_35, x_m_product_36, x_m_product_39, x_m_product_40, x_m_product_42, x_m_product_43, x_m_product_46, x_m_product_47, x_m_product_49, x_m_product_50, x_m_product_53, x_m_product_54, x_m_product_57, x_m_product_59, x_m_product_60, x_m_product_63, x_m_product_65, x_m_product_66, x_m_product_67, x_m_product_69, x_m_product_70, x_m_product_71, x_m_product_72, x_m_product_75, x_m_product_76, x_m_product_79, x_m_product_80, x_m_product_82, x_m_product_83, x_m_product_86, x_m_product_89, x_m_product_90, x_m_product_93, x_m_product_94, x_m_product_97, x_m_product_98, x_m_product_101, x_m_product_102, x_m_product_104, x_m_product_105, x_m_product_107, x_m_product_110, x_m_product_112, x_m_product_113, x_m_product_116, x_m_product_118, x_m_product_120, x_m_product_121, x_m_product_122, x_m_product_123, x_m_product_124, x_m_product_127, x_m_product_130, x_m_product_131, q_in, q_tn, true_and, hZ, q_le, h4, if_false, if_true, hx, eq_true p1, hk1, sp_m_of, g3, g4, q_l2i, XK_s, sp_m_right, q_mul, q_add, hc, hy]
      unfold fac at h8
      rw [if_pos p1] at h8
      rcases Classical.propComplete (C i = nI 1) with p2 | p2 <;> rcases Classical.propComplete (nI i = y) with p3 | p3 <;>
      simp (disch := first | assumption | omega) only [p2, p3, if_true, if_false, iff_self, iff_true, iff_false, true_iff, false_iff, not_true_eq_false, not_false_eq_true, n10, n01, q_sub, q_i2l, q_lmul, q_add] at h8 ⊢ <;>
      exact h8 _ _
    · rw [if_neg p1] at hr
      simp (disch := first | assumption | omega) only [x_m_product_0, x_m_product_1, x_m_product_2, x_m_product_3, x_m_product_7, x_m_product_8, x_m_product_11, x_m_product_12, x_m_product_13, x_m_product_16, x_m_product_18, x_m_product_19, x_m_product_22, x_m_product_25, x_m_product_26, x_m_product_29, x_m_product_32, x_m_product_33, x_m_product_35, x_m_product_36, x_m_product_39, x_m_product_40, x_m_product_42, x_m_product_43, x_m_product_46, x_m_product_47, x_m_product_49, x_m_product_50, x_m_product_53, x_m_product_54, x_m_product_57, x_m_product_59, x_m_product_60, x_m_product_63, x_m_product_65, x_m_product_66, x_m_product_67, x_m_product_69, x_m_product_70, x_m_product_71, x_m_product_72, x_m_product_75, x_m_product_76, x_m_product_79, x_m_product_80, x_m_product_82, x_m_product_83, x_m_product_86, x_m_product_89, x_m_product_90, x_m_product_93, x_m_product_94, x_m_product_97, x_m_product_98, x_m_product_101, x_m_product_102, x_m_product_104, x_m_product_105, x_m_product_107, x_m_product_110, x_m_product_112, x_m_product_113, x_m_product_116, x_m_product_118, x_m_product_120, x_m_product_121, x_m_product_122, x_m_product_123, x_m_product_124, x_m_product_127, x_m_product_130, x_m_product_131, q_in, q_tn, true_and, hZ, q_le, h4, if_false, if_true, hx, p1, sp_m_of, e0, g1, g3, g4, q_l2i, XK_s, sp_m_right, q_mul, q_add, hc, hy]
      unfold fac at h8
      rw [if_neg p1] at h8
      rcases Classical.propComplete (C i = nI 1) with p2 | p2 <;> rcases Classical.propComplete (nI i = y) with p3 | p3 <;>
      simp (disch := first | assumption | omega) only [p2, p3, if_true, if_false, iff_self, iff_true, iff_false, true_iff, false_iff, not_true_eq_false, not_false_eq_true, n10, n01, q_sub, q_i2l, q_lmul, q_add] at h8 ⊢ <;>
      exact h8 _ _
theorem sp_m_product {s l : Nat} (hG : ∀ k, k < 101 → jv 119 k = lN (G k)) (hB : IB G) (hs : s < 4) (hl : l < 9) (hZ : iv 124 s = nI n) (hn : n ≤ 8) (hC : ∀ i, i < n → iv 125 (40 * s + i) = C i) (hx : iv 118 12 = x) (hk : x = -1 ∨ (iv 118 13 = nI k ∧ k < 6)) (hy : iv 118 14 = y) : XM (d + 3) Ym_product [.ref 118, .int (nI s), .int (nI l)] iv jv Q = Q (some (.long (lN (pr G C x k y l n)))) (mk iv jv) := by
  simp only [e_m_product, x_m_product_0, x_m_product_1, x_m_product_2, x_m_product_3, x_m_product_7, x_m_product_8, x_m_product_11, x_m_product_12, x_m_product_13, x_m_product_16, x_m_product_18, x_m_product_19, x_m_product_22, x_m_product_25, x_m_product_26, x_m_product_29, x_m_product_32, x_m_product_33, x_m_product_35, x_m_product_36, x_m_product_39, x_m_product_40, x_m_product_42, x_m_product_43, x_m_product_46, x_m_product_47, x_m_product_49, x_m_product_50, x_m_product_53, x_m_product_54, x_m_product_57, x_m_product_59, x_m_product_60, x_m_product_63, x_m_product_65, x_m_product_66, x_m_product_67, x_m_product_69, x_m_product_70, x_m_product_71, x_m_product_72, x_m_product_75, x_m_product_76, x_m_product_79, x_m_product_80, x_m_product_82, x_m_product_83, x_m_product_86, x_m_product_89, x_m_product_90, x_m_product_93, x_m_product_94, x_m_product_97, x_m_product_98, x_m_product_101, x_m_product_102, x_m_product_104, x_m_product_105, x_m_product_107, x_m_product_110, x_m_product_112, x_m_product_113, x_m_product_116, x_m_product_118, x_m_product_120, x_m_product_121, x_m_product_122, x_m_product_123, x_m_product_124, x_m_product_127, x_m_product_130, x_m_product_131]
  exact lp_m_product hG hB hs hl hZ hn hC hx hk hy n 0 (by omega) _ _
def bst (G : Nat → Nat) (C : Nat → Int32) (x : Int32) (k : Nat) (y : Int32) (n : Nat) : Nat := mdF (fun l => pr G C x k y l n) 8
theorem lp_m_best {s : Nat} (hG : ∀ k, k < 101 → jv 119 k = lN (G k)) (hB : IB G) (hs : s < 4) (hZ : iv 124 s = nI n) (hn : n ≤ 8) (hC : ∀ i, i < n → iv 125 (40 * s + i) = C i) (hx : iv 118 12 = x) (hk : x = -1 ∨ (iv 118 13 = nI k ∧ k < 6)) (hy : iv 118 14 = y) : ∀ m l, l + m = 9 → 1 ≤ l → XT (d + 3) Ym_best 4 [.ref 118, .int (nI s), .int (nI (mdF (fun l => pr G C x k y l n) (l - 1))), .int (nI l)] [] iv jv Q = Q (some (.int (nI (bst G C x k y n)))) (mk iv jv) := by
  intro m
  induction m with
  | zero =>
    intro l hl h1
    obtain rfl : l = 9 := by omega
    rw [x_m_best_4]
    simp (disch := first | assumption | omega) only [x_m_best_0, x_m_best_1, x_m_best_2, x_m_best_3, x_m_best_5, x_m_best_7, x_m_best_10, x_m_best_11, x_m_best_12, x_m_best_13, x_m_best_16, x_m_best_17, x_m_best_18, x_m_best_19, x_m_best_22, x_m_best_23, x_m_best_26, x_m_best_27, x_m_best_30, x_m_best_31, x_m_best_32, x_m_best_35, x_m_best_38, x_m_best_39, q_le, Nat.le_refl, if_true]
    rfl
  | succ m ih =>
    intro l hl h1
    have h4 : ¬ 9 ≤ l := by omega
    have hm := mdF_le (fun l => pr G C x k y l n) (l - 1)
    have h8 := ih (l + 1) (by omega) (by omega)
    have a1 := pr_lt G C x k y l hn
    have a2 := pr_lt G C x k y (mdF (fun l => pr G C x k y l n) (l - 1)) hn
    have e1 : l + 1 - 1 = (l - 1) + 1 := by omega
    have e2 : l - 1 + 1 = l := by omega
    rw [e1] at h8
    have e3 : mdF (fun l => pr G C x k y l n) (l - 1 + 1) = if pr G C x k y (mdF (fun l => pr G C x k y l n) (l - 1)) n < pr G C x k y l n then l else mdF (fun l => pr G C x k y l n) (l - 1) := by
      show (if (fun l => pr G C x k y l n) (mdF (fun l => pr G C x k y l n) (l - 1)) < (fun l => pr G C x k y l n) (l - 1 + 1) then l - 1 + 1 else _) = _
      rw [e2]
    rw [e3] at h8
    have c1 := fun Q : Option Value → mH → Prop => sp_m_product (d := d) (Q := Q) hG hB hs (show l < 9 from by omega) hZ hn hC hx hk hy
    have c2 := fun Q : Option Value → mH → Prop => sp_m_product (d := d) (Q := Q) hG hB hs (show mdF (fun l => pr G C x k y l n) (l - 1) < 9 from by omega) hZ hn hC hx hk hy
    rw [x_m_best_4]
    simp (disch := first | assumption | omega) only [x_m_best_0, x_m_best_1, x_m_best_2, x_m_best_3, x_m_best_5, x_m_best_7, x_m_best_10, x_m_best_11, x_m_best_12, x_m_best_13, x_m_best_16, x_m_best_17, x_m_best_18, x_m_best_19, x_m_best_22, x_m_best_23, x_m_best_26, x_m_best_27, x_m_best_30, x_m_best_31, x_m_best_32, x_m_best_35, x_m_best_38, x_m_best_39, q_le, h4, if_false, c1, c2, XK_s, c_gt, c_le, q_llt, q_lle, q_add]
    by_cases h : pr G C x k y (mdF (fun l => pr G C x k y l n) (l - 1)) n < pr G C x k y l n
    · have h' : ¬ pr G C x k y l n ≤ pr G C x k y (mdF (fun l => pr G C x k y l n) (l - 1)) n := by omega
      rw [if_pos h] at h8
      simp only [h, h', if_true, if_false]
      exact h8
    · have h' : pr G C x k y l n ≤ pr G C x k y (mdF (fun l => pr G C x k y l n) (l - 1)) n := by omega
      rw [if_neg h] at h8
      simp only [h, h', if_true, if_false]
      exact h8
theorem sp_m_best {s : Nat} (hG : ∀ k, k < 101 → jv 119 k = lN (G k)) (hB : IB G) (hs : s < 4) (hZ : iv 124 s = nI n) (hn : n ≤ 8) (hC : ∀ i, i < n → iv 125 (40 * s + i) = C i) (hx : iv 118 12 = x) (hk : x = -1 ∨ (iv 118 13 = nI k ∧ k < 6)) (hy : iv 118 14 = y) : XM (d + 4) Ym_best [.ref 118, .int (nI s)] iv jv Q = Q (some (.int (nI (bst G C x k y n)))) (mk iv jv) := by
  simp only [e_m_best, x_m_best_0, x_m_best_1, x_m_best_2, x_m_best_3, x_m_best_5, x_m_best_7, x_m_best_10, x_m_best_11, x_m_best_12, x_m_best_13, x_m_best_16, x_m_best_17, x_m_best_18, x_m_best_19, x_m_best_22, x_m_best_23, x_m_best_26, x_m_best_27, x_m_best_30, x_m_best_31, x_m_best_32, x_m_best_35, x_m_best_38, x_m_best_39]
  exact lp_m_best hG hB hs hZ hn hC hx hk hy 8 1 (by omega) (by omega)
theorem bst_le (G : Nat → Nat) (C : Nat → Int32) (x : Int32) (k : Nat) (y : Int32) (n : Nat) : bst G C x k y n ≤ 8 := mdF_le _ _
/-! are all 0 or 1 -/
def aa (C : Nat → Int32) : Nat → Bool
  | 0 => true
  | n + 1 => aa C n && decide (0 ≤ (C n).toInt ∧ (C n).toInt ≤ 1)
theorem bab (a b : Prop) [Decidable a] [Decidable b] : b01 a &&& b01 b = b01 (a ∧ b) := by
  unfold b01
  by_cases h1 : a <;> by_cases h2 : b <;> simp [h1, h2] <;> decide
theorem lp_m_are {s : Nat} {b0 : Bool} (hs : s < 4) (hZ : iv 124 s = nI n) (hn : n ≤ 40) (hC : ∀ i, i < n → iv 125 (40 * s + i) = C i) : ∀ m i, i + m = n → XT (d + 1) Ym_areAnswers 26 [.ref 118, .int (nI s), .int (b01 ((b0 && aa C i) = true)), .int (nI i)] [] iv jv Q = Q (some (.int (b01 ((b0 && aa C n) = true)))) (mk iv jv) := by
  intro m
  induction m with
  | zero =>
    intro i hi
    obtain rfl : i = n := by omega
    rw [x_m_areAnswers_26]
    simp (disch := first | assumption | omega) only [x_m_areAnswers_0, x_m_areAnswers_1, x_m_areAnswers_4, x_m_areAnswers_5, x_m_areAnswers_6, x_m_areAnswers_7, x_m_areAnswers_8, x_m_areAnswers_11, x_m_areAnswers_13, x_m_areAnswers_14, x_m_areAnswers_15, x_m_areAnswers_18, x_m_areAnswers_19, x_m_areAnswers_22, x_m_areAnswers_23, x_m_areAnswers_24, x_m_areAnswers_25, x_m_areAnswers_27, x_m_areAnswers_28, x_m_areAnswers_31, x_m_areAnswers_32, x_m_areAnswers_33, x_m_areAnswers_36, x_m_areAnswers_37, x_m_areAnswers_38, x_m_areAnswers_41, x_m_areAnswers_43, x_m_areAnswers_44, x_m_areAnswers_45, x_m_areAnswers_46, x_m_areAnswers_47, x_m_areAnswers_48, x_m_areAnswers_49, x_m_areAnswers_50, x_m_areAnswers_51, x_m_areAnswers_54, x_m_areAnswers_55, x_m_areAnswers_56, x_m_areAnswers_59, x_m_areAnswers_62, x_m_areAnswers_63, q_in, q_tn, true_and, hZ, q_le, Nat.le_refl, if_true, b01_ok]
  | succ m ih =>
    intro i hi
    have h4 : ¬ n ≤ i := by omega
    have hc := hC i (by omega)
    have h8 := ih (i + 1) (by omega)
    have e : ((b0 && aa C (i + 1)) = true) ↔ ((b0 && aa C i) = true ∧ (((0 : Nat) : Int) ≤ (C i).toInt ∧ (C i).toInt ≤ ((1 : Nat) : Int))) := by
      show ((b0 && (aa C i && decide _)) = true) ↔ _
      rw [← Bool.and_assoc, Bool.and_eq_true, decide_eq_true_eq]
      rfl
    rw [b01_congr e] at h8
    rw [x_m_areAnswers_26]
    simp (disch := first | assumption | omega) only [x_m_areAnswers_0, x_m_areAnswers_1, x_m_areAnswers_4, x_m_areAnswers_5, x_m_areAnswers_6, x_m_areAnswers_7, x_m_areAnswers_8, x_m_areAnswers_11, x_m_areAnswers_13, x_m_areAnswers_14, x_m_areAnswers_15, x_m_areAnswers_18, x_m_areAnswers_19, x_m_areAnswers_22, x_m_areAnswers_23, x_m_areAnswers_24, x_m_areAnswers_25, x_m_areAnswers_27, x_m_areAnswers_28, x_m_areAnswers_31, x_m_areAnswers_32, x_m_areAnswers_33, x_m_areAnswers_36, x_m_areAnswers_37, x_m_areAnswers_38, x_m_areAnswers_41, x_m_areAnswers_43, x_m_areAnswers_44, x_m_areAnswers_45, x_m_areAnswers_46, x_m_areAnswers_47, x_m_areAnswers_48, x_m_areAnswers_49, x_m_areAnswers_50, x_m_areAnswers_51, x_m_areAnswers_54, x_m_areAnswers_55, x_m_areAnswers_56, x_m_areAnswers_59, x_m_areAnswers_62, x_m_areAnswers_63, q_in, q_tn, true_and, hZ, q_le, h4, if_false, q_mul, q_add, hc, sp_isInI, XK_s, bab]
    exact h8
theorem sp_m_areAnswers {s : Nat} (hG : ∀ k, k < 101 → jv 119 k = lN (G k)) (hB : IB G) (hs : s < 4) (hZ : iv 124 s = nI n) (hn : n ≤ 40) (hC : ∀ i, i < n → iv 125 (40 * s + i) = C i) : XM (d + 2) Ym_areAnswers [.ref 118, .int (nI s)] iv jv Q = Q (some (.int (b01 ((decide (n ≤ G 29) && aa C n) = true)))) (mk iv jv) := by
  have g29 := hG 29 (by decide)
  have b1 := hB.1
  have l := lp_m_are (d := d) (jv := jv) (Q := Q) (b0 := decide (n ≤ G 29)) hs hZ hn hC n 0 (by omega)
  have e : aa C 0 = true := rfl
  rw [e, Bool.and_true] at l
  by_cases h : n ≤ G 29
  · have h' : ¬ G 29 < n := by omega
    rw [b01_t (c := decide (n ≤ G 29) = true) (by simpa using h)] at l
    refine Eq.trans ?_ l
    simp (disch := first | assumption | omega) only [e_m_areAnswers, x_m_areAnswers_0, x_m_areAnswers_1, x_m_areAnswers_4, x_m_areAnswers_5, x_m_areAnswers_6, x_m_areAnswers_7, x_m_areAnswers_8, x_m_areAnswers_11, x_m_areAnswers_13, x_m_areAnswers_14, x_m_areAnswers_15, x_m_areAnswers_18, x_m_areAnswers_19, x_m_areAnswers_22, x_m_areAnswers_23, x_m_areAnswers_24, x_m_areAnswers_25, x_m_areAnswers_27, x_m_areAnswers_28, x_m_areAnswers_31, x_m_areAnswers_32, x_m_areAnswers_33, x_m_areAnswers_36, x_m_areAnswers_37, x_m_areAnswers_38, x_m_areAnswers_41, x_m_areAnswers_43, x_m_areAnswers_44, x_m_areAnswers_45, x_m_areAnswers_46, x_m_areAnswers_47, x_m_areAnswers_48, x_m_areAnswers_49, x_m_areAnswers_50, x_m_areAnswers_51, x_m_areAnswers_54, x_m_areAnswers_55, x_m_areAnswers_56, x_m_areAnswers_59, x_m_areAnswers_62, x_m_areAnswers_63, q_in, q_tn, true_and, hZ, q_i2l, g29, c_gt, c_le, q_llt, q_lle, h, h', if_true, if_false]
  · have h' : G 29 < n := by omega
    rw [b01_f (c := decide (n ≤ G 29) = true) (by simpa using h)] at l
    refine Eq.trans ?_ l
    simp (disch := first | assumption | omega) only [e_m_areAnswers, x_m_areAnswers_0, x_m_areAnswers_1, x_m_areAnswers_4, x_m_areAnswers_5, x_m_areAnswers_6, x_m_areAnswers_7, x_m_areAnswers_8, x_m_areAnswers_11, x_m_areAnswers_13, x_m_areAnswers_14, x_m_areAnswers_15, x_m_areAnswers_18, x_m_areAnswers_19, x_m_areAnswers_22, x_m_areAnswers_23, x_m_areAnswers_24, x_m_areAnswers_25, x_m_areAnswers_27, x_m_areAnswers_28, x_m_areAnswers_31, x_m_areAnswers_32, x_m_areAnswers_33, x_m_areAnswers_36, x_m_areAnswers_37, x_m_areAnswers_38, x_m_areAnswers_41, x_m_areAnswers_43, x_m_areAnswers_44, x_m_areAnswers_45, x_m_areAnswers_46, x_m_areAnswers_47, x_m_areAnswers_48, x_m_areAnswers_49, x_m_areAnswers_50, x_m_areAnswers_51, x_m_areAnswers_54, x_m_areAnswers_55, x_m_areAnswers_56, x_m_areAnswers_59, x_m_areAnswers_62, x_m_areAnswers_63, q_in, q_tn, true_and, hZ, q_i2l, g29, c_gt, c_le, q_llt, q_lle, h, h', if_true, if_false]
/-! turners, kinds -/
def tu (G : Nat → Nat) (C : Nat → Int32) (b n : Nat) : Nat → Nat
  | 0 => 0
  | i + 1 => if bst G C (-1) 0 (nI i) n ≠ b then tu G C b n i ||| 2 ^ i else tu G C b n i
theorem tu_s (G : Nat → Nat) (C : Nat → Int32) (b n i : Nat) : tu G C b n (i + 1) = if bst G C (-1) 0 (nI i) n ≠ b then tu G C b n i ||| 2 ^ i else tu G C b n i := rfl
theorem tu_lt (G : Nat → Nat) (C : Nat → Int32) (b n : Nat) : ∀ i, i ≤ 8 → tu G C b n i < 2 ^ i
  | 0, _ => by show 0 < 1; decide
  | i + 1, h => by
    have h1 := tu_lt G C b n i (by omega)
    have h2 : 2 ^ (i + 1) = 2 ^ i * 2 := Nat.pow_succ 2 i
    rw [tu_s]
    split
    · exact Nat.or_lt_two_pow (by omega) (by omega)
    · omega
def FI (iv iv' : mI) : Prop := ∀ q k, ¬ (q = 118 ∧ 12 ≤ k) → iv' q k = iv q k
theorem FI_u {iv iv1 : mI} {k : Nat} {z : Int32} (h : FI iv iv1) (hk : 12 ≤ k) : FI iv (upi iv1 118 k z) := fun q j e => by
  unfold upi
  rw [if_neg (fun w => e ⟨w.1, by omega⟩)]
  exact h q j e
theorem FI_FR {iv iv1 : mI} {jv : mJ} (h : FI iv iv1) : FR iv jv iv1 jv := ⟨fun q k e => h q k (fun w => e ⟨w.1, Or.inr (Or.inr w.2)⟩), fun _ _ _ _ => rfl⟩
theorem lp_m_turners {s b : Nat} (hG : ∀ k, k < 101 → jv 119 k = lN (G k)) (hB : IB G) (hs : s < 4) (hZ : iv 124 s = nI n) (hn : n ≤ 8) (hC : ∀ i, i < n → iv 125 (40 * s + i) = C i) (hb : b ≤ 8) (hQ : ∀ iv', FI iv iv' → Q (some (.int (nI (tu G C b n n)))) (mk iv' jv)) : ∀ m i, i + m = n → ∀ iv1, FI iv iv1 → iv1 118 12 = -1 → XT (d + 4) Ym_turners 11 [.ref 118, .int (nI s), .int (nI b), .int (nI (tu G C b n i)), .int (nI i)] [] iv1 jv Q := by
  intro m
  induction m with
  | zero =>
    intro i hi iv1 hF h12
    obtain rfl : i = n := by omega
    have z1 : iv1 124 s = nI i := (hF 124 s (by omega)).trans hZ
    rw [x_m_turners_11]
    simp (disch := first | assumption | omega) only [x_m_turners_0, x_m_turners_1, x_m_turners_2, x_m_turners_5, x_m_turners_6, x_m_turners_7, x_m_turners_8, x_m_turners_9, x_m_turners_13, x_m_turners_14, x_m_turners_17, x_m_turners_18, x_m_turners_19, x_m_turners_22, x_m_turners_23, x_m_turners_25, x_m_turners_28, x_m_turners_29, x_m_turners_30, x_m_turners_31, x_m_turners_34, x_m_turners_35, x_m_turners_38, x_m_turners_39, x_m_turners_41, x_m_turners_42, x_m_turners_45, x_m_turners_46, x_m_turners_47, x_m_turners_48, x_m_turners_51, x_m_turners_54, x_m_turners_55, q_in, q_tn, true_and, z1, q_le, Nat.le_refl, if_true]
    exact hQ _ hF
  | succ m ih =>
    intro i hi iv1 hF h12
    have h4 : ¬ n ≤ i := by omega
    have z1 : iv1 124 s = nI n := (hF 124 s (by omega)).trans hZ
    have hF2 : FI iv (upi iv1 118 14 (nI i)) := FI_u hF (by decide)
    have z2 : upi iv1 118 14 (nI i) 124 s = nI n := (hF2 124 s (by omega)).trans hZ
    have c2 : ∀ i', i' < n → upi iv1 118 14 (nI i) 125 (40 * s + i') = C i' := fun i' hi' => (hF2 125 _ (by omega)).trans (hC i' hi')
    have x2 : upi iv1 118 14 (nI i) 118 12 = -1 := by unfold upi; rw [if_neg (by omega)]; exact h12
    have hbs := fun Q : Option Value → mH → Prop => sp_m_best (d := d) (Q := Q) (x := -1) (k := 0) hG hB hs z2 hn c2 x2 (Or.inl rfl) (upi_at _ _ _ _)
    have hle := bst_le G C (-1) 0 (nI i) n
    have tl := tu_lt G C b n i (by omega)
    have tp := pow_le (k := i) (by omega)
    have hor := bit_or (tu G C b n i) (by omega) i (by omega)
    have ho0 : nI (tu G C b n i) ||| nI 0 = nI (tu G C b n i) := by rw [nI_or, Nat.or_zero]
    have h8 := ih (i + 1) (by omega) _ hF2 x2
    rw [tu_s] at h8
    rw [x_m_turners_11]
    simp (disch := first | assumption | omega) only [x_m_turners_0, x_m_turners_1, x_m_turners_2, x_m_turners_5, x_m_turners_6, x_m_turners_7, x_m_turners_8, x_m_turners_9, x_m_turners_13, x_m_turners_14, x_m_turners_17, x_m_turners_18, x_m_turners_19, x_m_turners_22, x_m_turners_23, x_m_turners_25, x_m_turners_28, x_m_turners_29, x_m_turners_30, x_m_turners_31, x_m_turners_34, x_m_turners_35, x_m_turners_38, x_m_turners_39, x_m_turners_41, x_m_turners_42, x_m_turners_45, x_m_turners_46, x_m_turners_47, x_m_turners_48, x_m_turners_51, x_m_turners_54, x_m_turners_55, q_in, q_tn, true_and, z1, q_le, h4, if_false, hbs, XK_s, q_eq]
    by_cases h : bst G C (-1) 0 (nI i) n = b
    · rw [if_neg (by simp [h])] at h8
      simp (disch := first | assumption | omega) only [h, if_true, ho0, q_add]
      exact h8
    · rw [if_pos h] at h8
      simp (disch := first | assumption | omega) only [h, if_false, hor, q_add]
      exact h8
def kn (G : Nat → Nat) (C : Nat → Int32) (i lev n : Nat) : Nat → Nat
  | 0 => 0
  | k + 1 => if bst G C (nI i) k (-1) n = lev then kn G C i lev n k ||| 2 ^ k else kn G C i lev n k
theorem kn_s (G : Nat → Nat) (C : Nat → Int32) (i lev n k : Nat) : kn G C i lev n (k + 1) = if bst G C (nI i) k (-1) n = lev then kn G C i lev n k ||| 2 ^ k else kn G C i lev n k := rfl
theorem kn_lt (G : Nat → Nat) (C : Nat → Int32) (i lev n : Nat) : ∀ k, k ≤ 8 → kn G C i lev n k < 2 ^ k
  | 0, _ => by show 0 < 1; decide
  | k + 1, h => by
    have h1 := kn_lt G C i lev n k (by omega)
    have h2 : 2 ^ (k + 1) = 2 ^ k * 2 := Nat.pow_succ 2 k
    rw [kn_s]
    split
    · exact Nat.or_lt_two_pow (by omega) (by omega)
    · omega
theorem lp_m_kinds {s i lev : Nat} (hi8 : i < 8) (hG : ∀ k, k < 101 → jv 119 k = lN (G k)) (hB : IB G) (hs : s < 4) (hZ : iv 124 s = nI n) (hn : n ≤ 8) (hC : ∀ i, i < n → iv 125 (40 * s + i) = C i) (hl : lev ≤ 8) (hQ : ∀ iv', FI iv iv' → Q (some (.int (nI (kn G C i lev n 6)))) (mk iv' jv)) : ∀ m k, k + m = 6 → ∀ iv1, FI iv iv1 → iv1 118 12 = nI i → iv1 118 14 = -1 → XT (d + 4) Ym_kinds 11 [.ref 118, .int (nI s), .int (nI i), .int (nI lev), .int (nI (kn G C i lev n k)), .int (nI k)] [] iv1 jv Q := by
  intro m
  induction m with
  | zero =>
    intro k hk iv1 hF h12 h14
    obtain rfl : k = 6 := by omega
    rw [x_m_kinds_11]
    simp (disch := first | assumption | omega) only [x_m_kinds_0, x_m_kinds_1, x_m_kinds_3, x_m_kinds_4, x_m_kinds_5, x_m_kinds_8, x_m_kinds_9, x_m_kinds_13, x_m_kinds_15, x_m_kinds_18, x_m_kinds_19, x_m_kinds_21, x_m_kinds_24, x_m_kinds_26, x_m_kinds_27, x_m_kinds_28, x_m_kinds_31, x_m_kinds_32, x_m_kinds_35, x_m_kinds_36, x_m_kinds_38, x_m_kinds_39, x_m_kinds_42, x_m_kinds_43, x_m_kinds_44, x_m_kinds_46, x_m_kinds_49, x_m_kinds_52, x_m_kinds_54, q_le, Nat.le_refl, if_true]
    exact hQ _ hF
  | succ m ih =>
    intro k hk iv1 hF h12 h14
    have h4 : ¬ 6 ≤ k := by omega
    have hF2 : FI iv (upi iv1 118 13 (nI k)) := FI_u hF (by decide)
    have z2 : upi iv1 118 13 (nI k) 124 s = nI n := (hF2 124 s (by omega)).trans hZ
    have c2 : ∀ i', i' < n → upi iv1 118 13 (nI k) 125 (40 * s + i') = C i' := fun i' hi' => (hF2 125 _ (by omega)).trans (hC i' hi')
    have x2 : upi iv1 118 13 (nI k) 118 12 = nI i := by unfold upi; rw [if_neg (by omega)]; exact h12
    have y2 : upi iv1 118 13 (nI k) 118 14 = -1 := by unfold upi; rw [if_neg (by omega)]; exact h14
    have hbs := fun Q : Option Value → mH → Prop => sp_m_best (d := d) (Q := Q) (x := nI i) (k := k) hG hB hs z2 hn c2 x2 (Or.inr ⟨upi_at _ _ _ _, by omega⟩) y2
    have hle := bst_le G C (nI i) k (-1) n
    have tl := kn_lt G C i lev n k (by omega)
    have tp := pow_le (k := k) (by omega)
    have hor := bit_or (kn G C i lev n k) (by omega) k (by omega)
    have ho0 : nI (kn G C i lev n k) ||| nI 0 = nI (kn G C i lev n k) := by rw [nI_or, Nat.or_zero]
    have h8 := ih (k + 1) (by omega) _ hF2 x2 y2
    rw [kn_s] at h8
    rw [x_m_kinds_11]
    simp (disch := first | assumption | omega) only [x_m_kinds_0, x_m_kinds_1, x_m_kinds_3, x_m_kinds_4, x_m_kinds_5, x_m_kinds_8, x_m_kinds_9, x_m_kinds_13, x_m_kinds_15, x_m_kinds_18, x_m_kinds_19, x_m_kinds_21, x_m_kinds_24, x_m_kinds_26, x_m_kinds_27, x_m_kinds_28, x_m_kinds_31, x_m_kinds_32, x_m_kinds_35, x_m_kinds_36, x_m_kinds_38, x_m_kinds_39, x_m_kinds_42, x_m_kinds_43, x_m_kinds_44, x_m_kinds_46, x_m_kinds_49, x_m_kinds_52, x_m_kinds_54, q_le, h4, if_false, hbs, XK_s, q_eq]
    by_cases h : bst G C (nI i) k (-1) n = lev
    · rw [if_pos h] at h8
      simp (disch := first | assumption | omega) only [h, if_true, hor, q_add]
      exact h8
    · rw [if_neg h] at h8
      simp (disch := first | assumption | omega) only [h, if_false, ho0, q_add]
      exact h8
end TELL
