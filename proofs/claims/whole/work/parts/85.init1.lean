section INIT1
variable {d n : Nat} {hp : mH} {Q : Option Value → mH → Prop} {q : Nat}
theorem mup_n {hp : mH} {q k a j : Nat} {v : Value} (h : ¬ (a = q ∧ j = k)) : mup hp q k v a j = hp a j := if_neg h
theorem mup_a (hp : mH) (q k : Nat) (v : Value) : mup hp q k v q k = v := if_pos ⟨rfl, rfl⟩
theorem mrw_n {hp : mH} {q a j : Nat} {f : Nat → Value} (h : a ≠ q) : mrow hp q f a j = hp a j := if_neg h
theorem mrw_a (hp : mH) (q j : Nat) (f : Nat → Value) : mrow hp q f q j = f j := if_pos rfl
theorem ltT {a b : Nat} (h : a < b) : (a < b) = True := eq_true h
theorem leT {a b : Nat} (h : a ≤ b) : (a ≤ b) = True := eq_true h
theorem eqT {a b : Nat} (h : a = b) : (a = b) = True := eq_true h
/-! how the heap is once all objects stand -/
def G0 (j : Nat) : Nat := if j < 9 then 1 else if 21 ≤ j ∧ j < 24 then 8 else if j = 30 then 4 else 0
def iv0 : mI := fun q k => match (shp q).1 with
  | 1 => if k = 5 then nI 4 else nI 0
  | 2 => if k = 3 then nI 1 else if k = 4 then nI 10 else if k = 7 then -1 else nI 0
  | 3 => if k = 0 then -1 else nI 0
  | 16 => if q = 2 ∨ q = 38 ∨ q = 74 then nI 1 else if q = 4 ∨ q = 40 ∨ q = 76 then nI 8 else if q = 123 then -1 else nI 0
  | _ => nI 0
def jv0 : mJ := fun q k => match (shp q).1 with
  | 4 => if k = 1 then lN 9 else if k = 2 then lN 36 else if k = 3 then lN 204 else lN 0
  | 17 => if q = 9 ∨ q = 45 ∨ q = 81 then lN 1 else if q = 119 then lN (G0 k) else lN 0
  | _ => lN 0
def tg : mH := mk iv0 jv0
def BK (q g : Nat) (hp : mH) : Prop := ∀ a k, q ≤ a → a ≤ q + g → k < (shp a).2 → hp a k = tg a k
theorem t_16 {a N : Nat} (h : shp a = (16, N)) (k : Nat) : tg a k = .int (iv0 a k) := mk_i (by rw [h]; rfl)
theorem t_17 {a N : Nat} (h : shp a = (17, N)) (k : Nat) : tg a k = .long (jv0 a k) := mk_j (by rw [h]; rfl)
theorem i_16 {a N : Nat} (h : shp a = (16, N)) (h2 : ¬ (a = 2 ∨ a = 38 ∨ a = 74)) (h3 : ¬ (a = 4 ∨ a = 40 ∨ a = 76)) (h4 : a ≠ 123) (k : Nat) : tg a k = .int (nI 0) := by
  rw [t_16 h]
  unfold iv0
  rw [h]
  simp only [h2, h3, h4, if_false]
theorem j_17 {a N : Nat} (h : shp a = (17, N)) (h2 : ¬ (a = 9 ∨ a = 45 ∨ a = 81)) (h3 : a ≠ 119) (k : Nat) : tg a k = .long (lN 0) := by
  rw [t_17 h]
  unfold jv0
  rw [h]
  simp only [h2, h3, if_false]
theorem t_it (h : shp q = (2, 10)) : tg q 0 = .int (nI 0) ∧ tg q 1 = .int (nI 0) ∧ tg q 2 = .int (nI 0) ∧ tg q 3 = .int (nI 1) ∧ tg q 4 = .int (nI 10) ∧ tg q 5 = .int (nI 0) ∧ tg q 6 = .int (nI 0) ∧ tg q 7 = .int (-1) ∧ tg q 8 = .ref (q + 1) ∧ tg q 9 = .ref (q + 2) := by
  unfold tg
  refine ⟨?_, ?_, ?_, ?_, ?_, ?_, ?_, ?_, ?_, ?_⟩ <;> simp [mk, rv, h, tyk, iv0, rvc]
theorem sp_i_init (h : shp q = (2, 10)) (h1 : shp (q + 1) = (16, 9)) (h2 : shp (q + 2) = (16, 9)) (hs : q + 3 ≤ 126) (s1 : ∀ k, tg (q + 1) k = .int (nI 0)) (s2 : ∀ k, tg (q + 2) k = .int (nI 0)) (hQ : ∀ hp', (∀ a k, a < q → hp' a k = hp a k) → BK q 2 hp' → Q none hp') : TM (d + 1) Yi_init [.ref q] hp (q + 1) Q := by
  obtain ⟨t0, t1, t2, t3, t4, t5, t6, t7, t8, t9⟩ := t_it h
  have e2 : q + 1 + 1 = q + 2 := rfl
  simp (disch := first | assumption | omega | exact Or.inl rfl) only [e_i_init, x_i_init_0, x_i_init_1, x_i_init_4, x_i_init_5, x_i_init_6, x_i_init_9, x_i_init_10, x_i_init_11, x_i_init_14, x_i_init_15, x_i_init_16, x_i_init_19, x_i_init_20, x_i_init_21, x_i_init_24, x_i_init_25, x_i_init_27, x_i_init_30, x_i_init_31, x_i_init_32, x_i_init_35, x_i_init_36, x_i_init_37, x_i_init_40, x_i_init_41, x_i_init_42, x_i_init_45, x_i_init_46, x_i_init_48, x_i_init_50, x_i_init_53, x_i_init_54, x_i_init_56, x_i_init_58, x_i_init_61, h, h1, e2, h2, ltT, leT, eqT, true_and]
  refine hQ _ (fun a k ha => ?_) (fun a k ha1 ha2 hk => ?_)
  · simp (disch := first | assumption | omega) only [mup_n, mrw_n]
  · have ha : a = q ∨ a = q + 1 ∨ a = q + 2 := by omega
    rcases ha with rfl | rfl | rfl
    · rw [h] at hk
      have hk' : k = 0 ∨ k = 1 ∨ k = 2 ∨ k = 3 ∨ k = 4 ∨ k = 5 ∨ k = 6 ∨ k = 7 ∨ k = 8 ∨ k = 9 := by simp only at hk; omega
      rcases hk' with rfl | rfl | rfl | rfl | rfl | rfl | rfl | rfl | rfl | rfl <;> simp (disch := first | assumption | omega) only [mup_n, mup_a, mrw_n, t0, t1, t2, t3, t4, t5, t6, t7, t8, t9]
    · rw [s1]
      simp (disch := first | assumption | omega) only [mup_n, mrw_n, mrw_a]
      rfl
    · rw [s2]
      simp (disch := first | assumption | omega) only [mup_n, mrw_n, mrw_a]
      rfl
theorem t_sh (h : shp q = (3, 3)) : tg q 0 = .int (-1) ∧ tg q 1 = .int (nI 0) ∧ tg q 2 = .ref (q + 1) := by
  unfold tg
  refine ⟨?_, ?_, ?_⟩ <;> simp [mk, rv, h, tyk, iv0, rvc]
theorem sp_h_init (h : shp q = (3, 3)) (h1 : shp (q + 1) = (16, 40)) (hs : q + 2 ≤ 126) (s1 : ∀ k, tg (q + 1) k = .int (nI 0)) (hQ : ∀ hp', (∀ a k, a < q → hp' a k = hp a k) → BK q 1 hp' → Q none hp') : TM (d + 1) Yh_init [.ref q] hp (q + 1) Q := by
  obtain ⟨t0, t1, t2⟩ := t_sh h
  simp (disch := first | assumption | omega | exact Or.inl rfl) only [e_h_init, x_h_init_0, x_h_init_1, x_h_init_4, x_h_init_5, x_h_init_6, x_h_init_9, x_h_init_10, x_h_init_11, x_h_init_14, x_h_init_15, x_h_init_17, x_h_init_19, x_h_init_22, h, h1, ltT, leT, eqT, true_and]
  refine hQ _ (fun a k ha => ?_) (fun a k ha1 ha2 hk => ?_)
  · simp (disch := first | assumption | omega) only [mup_n, mrw_n]
  · have ha : a = q ∨ a = q + 1 := by omega
    rcases ha with rfl | rfl
    · rw [h] at hk
      have hk' : k = 0 ∨ k = 1 ∨ k = 2 := by simp only at hk; omega
      rcases hk' with rfl | rfl | rfl <;> simp (disch := first | assumption | omega) only [mup_n, mup_a, mrw_n, t0, t1, t2]
    · rw [s1]
      simp (disch := first | assumption | omega) only [mup_n, mrw_n, mrw_a]
      rfl
theorem t_w (h : shp q = (4, 4)) : tg q 0 = .ref (q + 1) ∧ tg q 1 = .long (lN 9) ∧ tg q 2 = .long (lN 36) ∧ tg q 3 = .long (lN 204) := by
  unfold tg
  refine ⟨?_, ?_, ?_, ?_⟩ <;> simp [mk, rv, h, tyk, jv0, rvc]
theorem lp_w_init (h : shp q = (4, 4)) (h1 : shp (q + 1) = (17, 9)) (hQ : ∀ hp', (∀ a k, a < q → hp' a k = hp a k) → hp' q 0 = .ref (q + 1) → hp' q 1 = .long (lN 9) → hp' q 2 = .long (lN 36) → hp' q 3 = .long (lN 204) → (∀ k, k < 9 → hp' (q + 1) k = .long (lN 1)) → Q none hp') : ∀ m l, l + m = 9 → ∀ hp1, (∀ a k, a < q → hp1 a k = hp a k) → hp1 q 0 = .ref (q + 1) → hp1 q 1 = .long (lN l) → hp1 q 2 = .long (lN (sm (fun g => g) l)) → hp1 q 3 = .long (lN (sm (fun g => g * g) l)) → (∀ k, k < l → hp1 (q + 1) k = .long (lN 1)) → T (TM d) none Yw_init (q + 2) 29 [.ref q, .int (nI l)] [] hp1 (q + 2) Q := by
  intro m
  induction m with
  | zero =>
    intro l hl hp1 f0 f1 f2 f3 f4 f5
    obtain rfl : l = 9 := by omega
    rw [x_w_init_29]
    simp (disch := first | assumption | omega) only [x_w_init_0, x_w_init_1, x_w_init_4, x_w_init_5, x_w_init_7, x_w_init_9, x_w_init_12, x_w_init_13, x_w_init_14, x_w_init_17, x_w_init_18, x_w_init_19, x_w_init_22, x_w_init_23, x_w_init_24, x_w_init_27, x_w_init_28, x_w_init_30, x_w_init_32, x_w_init_35, x_w_init_36, x_w_init_39, x_w_init_40, x_w_init_41, x_w_init_42, x_w_init_43, x_w_init_44, x_w_init_47, x_w_init_48, x_w_init_49, x_w_init_52, x_w_init_53, x_w_init_54, x_w_init_57, x_w_init_58, x_w_init_59, x_w_init_60, x_w_init_63, x_w_init_64, x_w_init_65, x_w_init_68, x_w_init_69, x_w_init_70, x_w_init_71, x_w_init_72, x_w_init_73, x_w_init_76, x_w_init_79, x_w_init_82, q_le, Nat.le_refl, if_true, true_and]
    exact hQ hp1 f0 f1 f2 f3 f4 f5
  | succ m ih =>
    intro l hl hp1 f0 f1 f2 f3 f4 f5
    have h9 : ¬ 9 ≤ l := by omega
    have e9 : l * l ≤ 9 * 9 := Nat.mul_le_mul (by omega) (by omega)
    have hs1 : sm (fun g => g) l + l = sm (fun g => g) (l + 1) := rfl
    have hs2 : sm (fun g => g * g) l + l * l = sm (fun g => g * g) (l + 1) := rfl
    rw [x_w_init_29]
    simp (disch := first | assumption | omega) only [x_w_init_0, x_w_init_1, x_w_init_4, x_w_init_5, x_w_init_7, x_w_init_9, x_w_init_12, x_w_init_13, x_w_init_14, x_w_init_17, x_w_init_18, x_w_init_19, x_w_init_22, x_w_init_23, x_w_init_24, x_w_init_27, x_w_init_28, x_w_init_30, x_w_init_32, x_w_init_35, x_w_init_36, x_w_init_39, x_w_init_40, x_w_init_41, x_w_init_42, x_w_init_43, x_w_init_44, x_w_init_47, x_w_init_48, x_w_init_49, x_w_init_52, x_w_init_53, x_w_init_54, x_w_init_57, x_w_init_58, x_w_init_59, x_w_init_60, x_w_init_63, x_w_init_64, x_w_init_65, x_w_init_68, x_w_init_69, x_w_init_70, x_w_init_71, x_w_init_72, x_w_init_73, x_w_init_76, x_w_init_79, x_w_init_82, q_le, h9, if_false, h, h1, ltT, q_in, q_tn, true_and, f1, f2, f3, f4, mup_n, q_ladd, q_mul, q_i2l, q_add, hs1, hs2]
    refine ih (l + 1) (by omega) _ (fun a k ha => ?_) ?_ ?_ ?_ ?_ (fun k hk => ?_)
    · simp (disch := first | assumption | omega) only [mup_n, f0]
    · simp (disch := first | assumption | omega) only [mup_n, f1]
    · simp (disch := first | assumption | omega) only [mup_n, mup_a]
    · simp (disch := first | assumption | omega) only [mup_n, mup_a]
    · exact mup_a _ _ _ _
    · by_cases e : k = l
      · subst e
        simp (disch := first | assumption | omega) only [mup_n, mup_a]
      · simp (disch := first | assumption | omega) only [mup_n, f5 k (show k < l from by omega)]
theorem sp_w_init (h : shp q = (4, 4)) (h1 : shp (q + 1) = (17, 9)) (hs : q + 2 ≤ 126) (s1 : ∀ k, tg (q + 1) k = .long (lN 1)) (hQ : ∀ hp', (∀ a k, a < q → hp' a k = hp a k) → BK q 1 hp' → Q none hp') : TM (d + 1) Yw_init [.ref q] hp (q + 1) Q := by
  obtain ⟨t0, t1, t2, t3⟩ := t_w h
  have e2 : q + 1 + 1 = q + 2 := rfl
  simp (disch := first | assumption | omega | exact Or.inl rfl) only [e_w_init, x_w_init_0, x_w_init_1, x_w_init_4, x_w_init_5, x_w_init_7, x_w_init_9, x_w_init_12, x_w_init_13, x_w_init_14, x_w_init_17, x_w_init_18, x_w_init_19, x_w_init_22, x_w_init_23, x_w_init_24, x_w_init_27, x_w_init_28, x_w_init_30, x_w_init_32, x_w_init_35, x_w_init_36, x_w_init_39, x_w_init_40, x_w_init_41, x_w_init_42, x_w_init_43, x_w_init_44, x_w_init_47, x_w_init_48, x_w_init_49, x_w_init_52, x_w_init_53, x_w_init_54, x_w_init_57, x_w_init_58, x_w_init_59, x_w_init_60, x_w_init_63, x_w_init_64, x_w_init_65, x_w_init_68, x_w_init_69, x_w_init_70, x_w_init_71, x_w_init_72, x_w_init_73, x_w_init_76, x_w_init_79, x_w_init_82, h, h1, e2, ltT, leT, true_and]
  refine lp_w_init (d := d) (hp := hp) h h1 (fun hp' g0 g1 g2 g3 g4 g5 => hQ hp' g0 (fun a k ha1 ha2 hk => ?_)) 9 0 (by omega) _ (fun a k ha => ?_) ?_ ?_ ?_ ?_ (fun k hk => absurd hk (by omega))
  · have ha : a = q ∨ a = q + 1 := by omega
    rcases ha with rfl | rfl
    · rw [h] at hk
      have hk' : k = 0 ∨ k = 1 ∨ k = 2 ∨ k = 3 := by simp only at hk; omega
      rcases hk' with rfl | rfl | rfl | rfl
      · rw [g1, t0]
      · rw [g2, t1]
      · rw [g3, t2]
      · rw [g4, t3]
    · rw [h1] at hk
      rw [g5 k hk, s1]
  · simp (disch := first | assumption | omega) only [mup_n, mrw_n]
  · simp (disch := first | assumption | omega) only [mup_n, mup_a]
  · simp (disch := first | assumption | omega) only [mup_n, mup_a]
  · simp (disch := first | assumption | omega) only [mup_n, mup_a]
    rfl
  · rw [mup_a]; rfl
end INIT1
