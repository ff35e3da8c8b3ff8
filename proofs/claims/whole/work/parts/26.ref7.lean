section REF7
variable {d : Nat} {iv : mI} {jv : mJ} {Q : Option Value → mH → Prop} {G : Nat → Nat} {f : Nat → Nat}
/-! the spread is not below 0 -/
theorem sm_s (g : Nat → Nat) (n : Nat) : sm g (n + 1) = sm g n + g n := rfl
theorem two_le (a b : Nat) : 2 * (a * b) ≤ a * a + b * b := by
  rcases Nat.le_total a b with h | h
  · obtain ⟨c, rfl⟩ := Nat.exists_eq_add_of_le h
    have e1 : a * (a + c) = a * a + a * c := Nat.mul_add _ _ _
    have e2 : (a + c) * (a + c) = a * a + a * c + (a * c + c * c) := by rw [Nat.add_mul, Nat.mul_add, Nat.mul_add, Nat.mul_comm c a]
    omega
  · obtain ⟨c, rfl⟩ := Nat.exists_eq_add_of_le h
    have e1 : (b + c) * b = b * b + b * c := by rw [Nat.add_mul, Nat.mul_comm c b]
    have e2 : (b + c) * (b + c) = b * b + b * c + (b * c + c * c) := by rw [Nat.add_mul, Nat.mul_add, Nat.mul_add, Nat.mul_comm c b]
    omega
theorem cs1 (f : Nat → Nat) (n : Nat) : ∀ k, 2 * (n * sm (fun l => cl l * f l) k) ≤ sm (fun l => cq l * f l) k + n * n * sm (fun l => c1 l * f l) k
  | 0 => by simp [sm]
  | k + 1 => by
    have h := cs1 f n k
    have h2 := Nat.mul_le_mul_right (f k) (two_le n k)
    have e1 : n * (cl k * f k) = n * k * f k := by show n * (k * f k) = _; rw [Nat.mul_assoc]
    have e2 : (n * n + k * k) * f k = n * n * f k + k * k * f k := Nat.add_mul _ _ _
    have e3 : 2 * (n * k) * f k = 2 * (n * k * f k) := Nat.mul_assoc _ _ _
    have e4 : cq k * f k = k * k * f k := rfl
    have e5 : c1 k * f k = f k := Nat.one_mul _
    rw [sm_s, sm_s, sm_s, e4, e5, Nat.mul_add n, e1, Nat.mul_add (n * n)]
    omega
theorem cs2 (f : Nat → Nat) : ∀ n, sm (fun l => cl l * f l) n * sm (fun l => cl l * f l) n ≤ sm (fun l => cq l * f l) n * sm (fun l => c1 l * f l) n
  | 0 => Nat.le_refl _
  | n + 1 => by
    have h := cs2 f n
    have h2 := Nat.mul_le_mul_right (f n) (cs1 f n n)
    rw [sm_s, sm_s, sm_s]
    generalize sm (fun l => cl l * f l) n = M at h h2 ⊢
    generalize sm (fun l => cq l * f l) n = S at h h2 ⊢
    generalize sm (fun l => c1 l * f l) n = A at h h2 ⊢
    have e1 : cl n * f n = n * f n := rfl
    have e2 : cq n * f n = n * n * f n := rfl
    have e3 : c1 n * f n = f n := Nat.one_mul _
    rw [e1, e2, e3]
    have a1 : (M + n * f n) * (M + n * f n) = M * M + 2 * (n * M) * f n + n * f n * (n * f n) := by
      rw [Nat.add_mul, Nat.mul_add, Nat.mul_add]
      have : n * f n * M = n * M * f n := by rw [Nat.mul_assoc, Nat.mul_comm (f n) M, ← Nat.mul_assoc]
      have b : M * (n * f n) = n * M * f n := by rw [← Nat.mul_assoc, Nat.mul_comm M n]
      have c : 2 * (n * M) * f n = 2 * (n * M * f n) := Nat.mul_assoc _ _ _
      omega
    have a2 : (S + n * n * f n) * (A + f n) = S * A + (S + n * n * A) * f n + n * n * f n * f n := by
      rw [Nat.add_mul, Nat.mul_add, Nat.mul_add, Nat.add_mul]
      have : n * n * f n * A = n * n * A * f n := by rw [Nat.mul_assoc, Nat.mul_comm (f n) A, ← Nat.mul_assoc]
      omega
    have a3 : n * f n * (n * f n) = n * n * f n * f n := by
      rw [Nat.mul_mul_mul_comm, ← Nat.mul_assoc (n * n)]
    rw [a1, a2, a3]
    have h3 : 2 * (n * M) * f n ≤ (S + n * n * A) * f n := h2
    omega
theorem gst_get {c f : Nat → Nat} {n : Nat} (h : (gst c f n).2 = false) : gst c f n = (sm (fun l => c l * f l) n, false) ∧ sm (fun l => c l * f l) n ≤ MX := by
  have h1 : sm (fun l => c l * f l) n ≤ MX := by
    rcases Nat.lt_or_ge MX (sm (fun l => c l * f l) n) with e | e
    · rw [gst_bad _ _ _ e] at h; exact absurd h (by decide)
    · exact e
  exact ⟨gst_ok _ _ _ h1, h1⟩
def spN (f : Nat → Nat) : Nat := (gst cq f 9).1 * (gst c1 f 9).1 - (gst cl f 9).1 * (gst cl f 9).1
theorem tf_get {a b : Nat} (h : tf a b = false) : a * b ≤ MX := by
  unfold tf at h; simp at h; exact h
theorem spB_get {f : Nat → Nat} (h : spB f = false) : (gst c1 f 9).2 = false ∧ (gst cl f 9).2 = false ∧ (gst cq f 9).2 = false ∧ (gst cq f 9).1 * (gst c1 f 9).1 ≤ MX ∧ (gst cl f 9).1 * (gst cl f 9).1 ≤ MX ∧ (gst c1 f 9).1 * (gst c1 f 9).1 ≤ MX := by
  unfold spB at h
  simp only [Bool.or_eq_false_iff] at h
  obtain ⟨⟨⟨⟨⟨h1, h2⟩, h3⟩, h4⟩, h5⟩, h6⟩ := h
  exact ⟨h1, h2, h3, tf_get h4, tf_get h5, tf_get h6⟩
theorem sp_cs {f : Nat → Nat} (h : spB f = false) : (gst cl f 9).1 * (gst cl f 9).1 ≤ (gst cq f 9).1 * (gst c1 f 9).1 := by
  obtain ⟨h1, h2, h3, h4, h5, h6⟩ := spB_get h
  rw [(gst_get h1).1, (gst_get h2).1, (gst_get h3).1]
  exact cs2 f 9
theorem spU_eq {f : Nat → Nat} (h : spB f = false) : spU f = lN (spN f) := by
  obtain ⟨h1, h2, h3, h4, h5, h6⟩ := spB_get h
  unfold spU spN
  rw [tv_ok h4, tv_ok h5, q_lsub (sp_cs h)]
theorem spN_le {f : Nat → Nat} (h : spB f = false) : spN f ≤ MX := by
  obtain ⟨h1, h2, h3, h4, h5, h6⟩ := spB_get h
  unfold spN; omega
theorem spL_eq {f : Nat → Nat} (h : spB f = false) : spL f = (gst c1 f 9).1 * (gst c1 f 9).1 := by
  obtain ⟨h1, h2, h3, h4, h5, h6⟩ := spB_get h
  unfold spL; rw [tv_ok h6]
theorem spL_pos {f : Nat → Nat} (hn : nz f) (h : spB f = false) : 0 < spL f := by
  rw [spL_eq h]
  have := A_pos hn (spB_get h).1
  exact Nat.mul_pos this this
def vSpread (f : Nat → Nat) (p : Nat) : Int64 := frR (spB f) (spN f) (spL f) p
def nowOk (G : Nat → Nat) (x y : Int32) : Prop := ((0 ≤ x.toInt ∧ x.toInt ≤ 1) ∨ (10 ≤ x.toInt ∧ x.toInt < 10 + (G 29 : Int)) ∨ (20 ≤ x.toInt ∧ x.toInt < 20 + (G 29 : Int))) ∧ (0 ≤ y.toInt ∧ y.toInt ≤ 1)
theorem sp_m_now_bad {x y : Int32} (hG : ∀ k, k < 101 → jv 119 k = lN (G k)) (hB : IB G) (h : ¬ nowOk G x y) : XM (d + 8) Ym_now [.ref 118, .int x, .int y] iv jv Q = Q (some (.long (-9223372036854775808))) (mk iv jv) := by
  have hb := hB.1
  have h29 := hG 29 (by decide)
  have a2 : ∀ x : Int32, 10 ≤ x.toInt → (x - nI 10).toInt = x.toInt - 10 := fun x h => sub_I x (by decide) (by omega)
  have a3 : ∀ x : Int32, 20 ≤ x.toInt → (x - nI 20).toInt = x.toInt - 20 := fun x h => sub_I x (by decide) (by omega)
  have e1 := a2 x
  have e2 := a3 x
  unfold nowOk at h
  by_cases p1 : ((0 : Nat) : Int) ≤ x.toInt ∧ x.toInt ≤ ((1 : Nat) : Int) <;> by_cases p2 : ((10 : Nat) : Int) ≤ x.toInt ∧ x.toInt ≤ ((17 : Nat) : Int) <;> by_cases p3 : 0 ≤ (x - nI 10).toInt ∧ (x - nI 10).toInt < (G 29 : Int) <;> by_cases p4 : ((20 : Nat) : Int) ≤ x.toInt ∧ x.toInt ≤ ((27 : Nat) : Int) <;> by_cases p5 : 0 ≤ (x - nI 20).toInt ∧ (x - nI 20).toInt < (G 29 : Int) <;> by_cases p6 : ((0 : Nat) : Int) ≤ y.toInt ∧ y.toInt ≤ ((1 : Nat) : Int) <;>
  first
  | (exfalso; omega)
  | (simp (disch := first | assumption | omega) only [e_m_now, x_m_now_0, x_m_now_1, x_m_now_2, x_m_now_3, x_m_now_4, x_m_now_7, x_m_now_10, x_m_now_11, x_m_now_12, x_m_now_15, x_m_now_18, x_m_now_21, x_m_now_24, x_m_now_25, x_m_now_26, x_m_now_28, x_m_now_29, x_m_now_32, x_m_now_35, x_m_now_36, x_m_now_37, x_m_now_40, x_m_now_43, x_m_now_46, x_m_now_49, x_m_now_50, x_m_now_51, x_m_now_53, x_m_now_54, x_m_now_57, x_m_now_60, x_m_now_61, x_m_now_64, x_m_now_65, x_m_now_66, x_m_now_67, x_m_now_70, x_m_now_71, x_m_now_72, x_m_now_73, x_m_now_74, x_m_now_77, x_m_now_80, x_m_now_83, x_m_now_84, x_m_now_85, x_m_now_88, x_m_now_89, x_m_now_90, x_m_now_93, x_m_now_94, x_m_now_95, x_m_now_98, sp_isInI, XK_s, b01_eq0, p1, p2, p3, p4, p5, p6, sp_m_isItem, not_false_eq_true, not_true_eq_false, if_true, if_false, z01, z11, true_and, or_true, n10])
theorem FR_looks {f : Nat → Nat} {b : Bool} {x y : Int64} : FR iv jv (fl (upi iv 118 5 (nI 0)) b) (upj (upj (stW jv f 9) 118 6 x) 118 7 y) :=
  FR_t (FR_weighs iv jv f) (FR_t (FR_fl _ _ b) (FR_t (FR_j _ _ 6 x) (FR_j _ _ 7 y)))
theorem upj_at (jv : mJ) (q k : Nat) (x : Int64) : upj jv q k x q k = x := by unfold upj; rw [if_pos ⟨rfl, rfl⟩]
theorem upj_nk {jv : mJ} {q k : Nat} {x : Int64} {a j : Nat} (h : j ≠ k) : upj jv q k x a j = jv a j := by unfold upj; rw [if_neg (fun z => h z.2)]
theorem upi_at (iv : mI) (q k : Nat) (x : Int32) : upi iv q k x q k = x := by unfold upi; rw [if_pos ⟨rfl, rfl⟩]
/-- what stands above and below is answered -/
theorem sp_part2 {a b p : Nat} {bad : Bool} {f : Nat → Nat} {x y : Int64} (hx : bad = false → x = lN a) (hy : bad = false → y = lN b) (ha : bad = false → a < 9223372036854775808) (hb : bad = false → 0 < b ∧ b < 9223372036854775808) (hp : p < 2) : XM (d + 2) Ym_part [.ref 118, .int (nI p)] (fl (upi iv 118 5 (nI 0)) bad) (upj (upj (stW jv f 9) 118 6 x) 118 7 y) Q = Q (some (.long (frR bad a b p))) (mk (fl (upi iv 118 5 (nI 0)) bad) (upj (upj (stW jv f 9) 118 6 x) 118 7 y)) :=
  sp_m_part (fl_5 (upi_at _ _ _ _)) (fun h => by rw [upj_nk (by decide), upj_at]; exact hx h) (fun h => by rw [upj_at]; exact hy h) ha hb hp
theorem WN_ge {f : Nat → Nat} (jv : mJ) : ∀ l, l < 9 → stW jv f 9 122 l = lN (f l) := fun l hl => stW_lt hl
theorem orf {a b : Bool} (h : (a || b) = false) : a = false ∧ b = false := by simpa using h
theorem WN_6 {f : Nat → Nat} (jv : mJ) (x : Int64) : ∀ l, l < 9 → upj (stW jv f 9) 118 6 x 122 l = lN (f l) := fun l hl => by rw [upj_ne (by decide)]; exact stW_lt hl
theorem sp_m_now0 {p : Nat} (hG : ∀ k, k < 101 → jv 119 k = lN (G k)) (hB : IB G) (hn : nz (wt G 0)) (hp : p < 2) (hQ : ∀ iv' jv', FR iv jv iv' jv' → Q (some (.long (vMean (WN G) p))) (mk iv' jv')) : XM (d + 8) Ym_now [.ref 118, .int (nI 0), .int (nI p)] iv jv Q := by
  have hp1 : p ≤ 1 := by omega
  have hf := WN_lt hB
  have g1 := gst_lt c1 (WN G) 9
  have g2 := gst_lt cl (WN G) 9
  simp (disch := first | assumption | omega) only [e_m_now, x_m_now_0, x_m_now_1, x_m_now_2, x_m_now_3, x_m_now_4, x_m_now_7, x_m_now_10, x_m_now_11, x_m_now_12, x_m_now_15, x_m_now_18, x_m_now_21, x_m_now_24, x_m_now_25, x_m_now_26, x_m_now_28, x_m_now_29, x_m_now_32, x_m_now_35, x_m_now_36, x_m_now_37, x_m_now_40, x_m_now_43, x_m_now_46, x_m_now_49, x_m_now_50, x_m_now_51, x_m_now_53, x_m_now_54, x_m_now_57, x_m_now_60, x_m_now_61, x_m_now_64, x_m_now_65, x_m_now_66, x_m_now_67, x_m_now_70, x_m_now_71, x_m_now_72, x_m_now_73, x_m_now_74, x_m_now_77, x_m_now_80, x_m_now_83, x_m_now_84, x_m_now_85, x_m_now_88, x_m_now_89, x_m_now_90, x_m_now_93, x_m_now_94, x_m_now_95, x_m_now_98, e_m_looks, x_m_looks_0, x_m_looks_1, x_m_looks_2, x_m_looks_5, x_m_looks_6, x_m_looks_9, x_m_looks_10, x_m_looks_11, x_m_looks_12, x_m_looks_15, x_m_looks_16, x_m_looks_19, x_m_looks_22, x_m_looks_23, x_m_looks_25, x_m_looks_28, x_m_looks_29, x_m_looks_30, x_m_looks_32, x_m_looks_33, x_m_looks_36, x_m_looks_39, x_m_looks_40, x_m_looks_41, x_m_looks_43, x_m_looks_44, x_m_looks_47, x_m_looks_50, x_m_looks_51, x_m_looks_52, x_m_looks_54, x_m_looks_57, x_m_looks_58, x_m_looks_61, x_m_looks_64, x_m_looks_65, x_m_looks_68, x_m_looks_69, x_m_looks_72, x_m_looks_75, x_m_looks_78, q_i2l, sp_isInN, XK_s, b01_eq0, Nat.zero_le, hp1, not_true_eq_false, if_false, if_true, true_and, z11, or_true, sp_weighs hG hB hn, XK_n, q_eq, sp_m_mean (WN_ge jv) hf, sp_m_all (WN_6 jv _) hf, fl_fl, q_le, (show ¬ ((0 : Nat) = 1) from by decide), (show ¬ ((1 : Nat) = 0) from by decide), (show ¬ ((20 : Nat) ≤ 0) from by decide)]
  rw [sp_part2 (fun _ => rfl) (fun _ => rfl) (fun _ => g2) (fun h => ⟨A_pos (WN_nz hn) (orf h).2, g1⟩) hp]
  simp only [XK_s, x_m_now_0, x_m_now_1, x_m_now_2, x_m_now_3, x_m_now_4, x_m_now_7, x_m_now_10, x_m_now_11, x_m_now_12, x_m_now_15, x_m_now_18, x_m_now_21, x_m_now_24, x_m_now_25, x_m_now_26, x_m_now_28, x_m_now_29, x_m_now_32, x_m_now_35, x_m_now_36, x_m_now_37, x_m_now_40, x_m_now_43, x_m_now_46, x_m_now_49, x_m_now_50, x_m_now_51, x_m_now_53, x_m_now_54, x_m_now_57, x_m_now_60, x_m_now_61, x_m_now_64, x_m_now_65, x_m_now_66, x_m_now_67, x_m_now_70, x_m_now_71, x_m_now_72, x_m_now_73, x_m_now_74, x_m_now_77, x_m_now_80, x_m_now_83, x_m_now_84, x_m_now_85, x_m_now_88, x_m_now_89, x_m_now_90, x_m_now_93, x_m_now_94, x_m_now_95, x_m_now_98]
  exact hQ _ _ FR_looks
theorem sp_m_now1 {p : Nat} (hG : ∀ k, k < 101 → jv 119 k = lN (G k)) (hB : IB G) (hn : nz (wt G 0)) (hp : p < 2) (hQ : ∀ iv' jv', FR iv jv iv' jv' → Q (some (.long (vSpread (WN G) p))) (mk iv' jv')) : XM (d + 8) Ym_now [.ref 118, .int (nI 1), .int (nI p)] iv jv Q := by
  have hp1 : p ≤ 1 := by omega
  have hf := WN_lt hB
  have hMX : MX = 9223372036854775807 := rfl
  have g1 := tv_lt (gst c1 (WN G) 9).1 (gst c1 (WN G) 9).1
  simp (disch := first | assumption | omega) only [e_m_now, x_m_now_0, x_m_now_1, x_m_now_2, x_m_now_3, x_m_now_4, x_m_now_7, x_m_now_10, x_m_now_11, x_m_now_12, x_m_now_15, x_m_now_18, x_m_now_21, x_m_now_24, x_m_now_25, x_m_now_26, x_m_now_28, x_m_now_29, x_m_now_32, x_m_now_35, x_m_now_36, x_m_now_37, x_m_now_40, x_m_now_43, x_m_now_46, x_m_now_49, x_m_now_50, x_m_now_51, x_m_now_53, x_m_now_54, x_m_now_57, x_m_now_60, x_m_now_61, x_m_now_64, x_m_now_65, x_m_now_66, x_m_now_67, x_m_now_70, x_m_now_71, x_m_now_72, x_m_now_73, x_m_now_74, x_m_now_77, x_m_now_80, x_m_now_83, x_m_now_84, x_m_now_85, x_m_now_88, x_m_now_89, x_m_now_90, x_m_now_93, x_m_now_94, x_m_now_95, x_m_now_98, e_m_looks, x_m_looks_0, x_m_looks_1, x_m_looks_2, x_m_looks_5, x_m_looks_6, x_m_looks_9, x_m_looks_10, x_m_looks_11, x_m_looks_12, x_m_looks_15, x_m_looks_16, x_m_looks_19, x_m_looks_22, x_m_looks_23, x_m_looks_25, x_m_looks_28, x_m_looks_29, x_m_looks_30, x_m_looks_32, x_m_looks_33, x_m_looks_36, x_m_looks_39, x_m_looks_40, x_m_looks_41, x_m_looks_43, x_m_looks_44, x_m_looks_47, x_m_looks_50, x_m_looks_51, x_m_looks_52, x_m_looks_54, x_m_looks_57, x_m_looks_58, x_m_looks_61, x_m_looks_64, x_m_looks_65, x_m_looks_68, x_m_looks_69, x_m_looks_72, x_m_looks_75, x_m_looks_78, q_i2l, sp_isInN, XK_s, b01_eq0, Nat.zero_le, Nat.le_refl, hp1, not_true_eq_false, if_false, if_true, true_and, z11, or_true, sp_weighs hG hB hn, XK_n, q_eq, sp_m_spread (WN_ge jv) hf, (show ¬ ((1 : Nat) = 0) from by decide)]
  rw [sp_part2 (bad := spB (WN G)) spU_eq (fun _ => rfl) (fun h => by have := spN_le h; omega) (fun h => ⟨spL_pos (WN_nz hn) h, g1⟩) hp]
  simp only [XK_s, x_m_now_0, x_m_now_1, x_m_now_2, x_m_now_3, x_m_now_4, x_m_now_7, x_m_now_10, x_m_now_11, x_m_now_12, x_m_now_15, x_m_now_18, x_m_now_21, x_m_now_24, x_m_now_25, x_m_now_26, x_m_now_28, x_m_now_29, x_m_now_32, x_m_now_35, x_m_now_36, x_m_now_37, x_m_now_40, x_m_now_43, x_m_now_46, x_m_now_49, x_m_now_50, x_m_now_51, x_m_now_53, x_m_now_54, x_m_now_57, x_m_now_60, x_m_now_61, x_m_now_64, x_m_now_65, x_m_now_66, x_m_now_67, x_m_now_70, x_m_now_71, x_m_now_72, x_m_now_73, x_m_now_74, x_m_now_77, x_m_now_80, x_m_now_83, x_m_now_84, x_m_now_85, x_m_now_88, x_m_now_89, x_m_now_90, x_m_now_93, x_m_now_94, x_m_now_95, x_m_now_98]
  exact hQ _ _ FR_looks
theorem sp_m_now10 {i p : Nat} (hG : ∀ k, k < 101 → jv 119 k = lN (G k)) (hB : IB G) (hn : nz (wt G 0)) (hi : i < G 29) (hp : p < 2) (hQ : ∀ iv' jv', FR iv jv iv' jv' → Q (some (.long (vTell G (WN G) i p))) (mk iv' jv')) : XM (d + 8) Ym_now [.ref 118, .int (nI (10 + i)), .int (nI p)] iv jv Q := by
  have hp1 : p ≤ 1 := by omega
  have hb := hB.1
  have h29 := hG 29 (by decide)
  have hf := WN_lt hB
  have g1 := gst_lt c1 (WN G) 9
  have g2 := gst_lt (WN G) (tel G i) 9
  have a1 : ¬ (10 + i ≤ 1) := by omega
  have a2 : 10 ≤ 10 + i := by omega
  have a3 : 10 + i ≤ 17 := by omega
  have a4 : ¬ (10 + i = 1) := by omega
  have a5 : ¬ (20 ≤ 10 + i) := by omega
  have a6 : ¬ (10 + i = 0) := by omega
  have a7 : i < 8 := by omega
  have a8 : 10 + i - 10 = i := by omega
  simp (disch := first | assumption | omega) only [e_m_now, x_m_now_0, x_m_now_1, x_m_now_2, x_m_now_3, x_m_now_4, x_m_now_7, x_m_now_10, x_m_now_11, x_m_now_12, x_m_now_15, x_m_now_18, x_m_now_21, x_m_now_24, x_m_now_25, x_m_now_26, x_m_now_28, x_m_now_29, x_m_now_32, x_m_now_35, x_m_now_36, x_m_now_37, x_m_now_40, x_m_now_43, x_m_now_46, x_m_now_49, x_m_now_50, x_m_now_51, x_m_now_53, x_m_now_54, x_m_now_57, x_m_now_60, x_m_now_61, x_m_now_64, x_m_now_65, x_m_now_66, x_m_now_67, x_m_now_70, x_m_now_71, x_m_now_72, x_m_now_73, x_m_now_74, x_m_now_77, x_m_now_80, x_m_now_83, x_m_now_84, x_m_now_85, x_m_now_88, x_m_now_89, x_m_now_90, x_m_now_93, x_m_now_94, x_m_now_95, x_m_now_98, e_m_looks, x_m_looks_0, x_m_looks_1, x_m_looks_2, x_m_looks_5, x_m_looks_6, x_m_looks_9, x_m_looks_10, x_m_looks_11, x_m_looks_12, x_m_looks_15, x_m_looks_16, x_m_looks_19, x_m_looks_22, x_m_looks_23, x_m_looks_25, x_m_looks_28, x_m_looks_29, x_m_looks_30, x_m_looks_32, x_m_looks_33, x_m_looks_36, x_m_looks_39, x_m_looks_40, x_m_looks_41, x_m_looks_43, x_m_looks_44, x_m_looks_47, x_m_looks_50, x_m_looks_51, x_m_looks_52, x_m_looks_54, x_m_looks_57, x_m_looks_58, x_m_looks_61, x_m_looks_64, x_m_looks_65, x_m_looks_68, x_m_looks_69, x_m_looks_72, x_m_looks_75, x_m_looks_78, q_i2l, sp_isInN, XK_s, b01_eq0, Nat.zero_le, Nat.le_refl, hp1, not_true_eq_false, not_false_eq_true, if_false, if_true, true_and, and_false, and_true, false_and, z11, or_true, sp_weighs hG hB hn, XK_n, q_eq, q_le, q_sub, a1, a2, a3, a4, a5, a6, a8, sp_isItemN, hi, sp_m_tellsAll (f := WN G) (FR_G (FR_weighs iv jv (WN G)) hG) hB a7 (WN_ge jv) hf, sp_m_all (WN_6 jv _) hf, fl_fl, (show ¬ ((1 : Nat) = 0) from by decide)]
  rw [sp_part2 (fun _ => rfl) (fun _ => rfl) (fun _ => g2) (fun h => ⟨A_pos (WN_nz hn) (orf h).2, g1⟩) hp]
  simp only [XK_s, x_m_now_0, x_m_now_1, x_m_now_2, x_m_now_3, x_m_now_4, x_m_now_7, x_m_now_10, x_m_now_11, x_m_now_12, x_m_now_15, x_m_now_18, x_m_now_21, x_m_now_24, x_m_now_25, x_m_now_26, x_m_now_28, x_m_now_29, x_m_now_32, x_m_now_35, x_m_now_36, x_m_now_37, x_m_now_40, x_m_now_43, x_m_now_46, x_m_now_49, x_m_now_50, x_m_now_51, x_m_now_53, x_m_now_54, x_m_now_57, x_m_now_60, x_m_now_61, x_m_now_64, x_m_now_65, x_m_now_66, x_m_now_67, x_m_now_70, x_m_now_71, x_m_now_72, x_m_now_73, x_m_now_74, x_m_now_77, x_m_now_80, x_m_now_83, x_m_now_84, x_m_now_85, x_m_now_88, x_m_now_89, x_m_now_90, x_m_now_93, x_m_now_94, x_m_now_95, x_m_now_98]
  exact hQ _ _ FR_looks
theorem tv16_pos {f : Nat → Nat} (hn : nz f) (h : (gst c1 f 9).2 = false) (h2 : tf 16 (gst c1 f 9).1 = false) : 0 < tv 16 (gst c1 f 9).1 := by
  rw [tv_ok (tf_get h2)]
  have := A_pos hn h
  omega
theorem sp_m_now20 {i p : Nat} (hG : ∀ k, k < 101 → jv 119 k = lN (G k)) (hB : IB G) (hn : nz (wt G 0)) (hi : i < G 29) (hp : p < 2) (hQ : ∀ iv' jv', FR iv jv iv' jv' → Q (some (.long (vRight G (WN G) i p))) (mk iv' jv')) : XM (d + 8) Ym_now [.ref 118, .int (nI (20 + i)), .int (nI p)] iv jv Q := by
  have hp1 : p ≤ 1 := by omega
  have hb := hB.1
  have h29 := hG 29 (by decide)
  have hf := WN_lt hB
  have g1 := gst_lt c1 (WN G) 9
  have g2 := gst_lt (WN G) (rgt G i) 9
  have g3 := tv_lt 16 (gst c1 (WN G) 9).1
  have a1 : ¬ (20 + i ≤ 1) := by omega
  have a2 : 10 ≤ 20 + i := by omega
  have a3 : ¬ (20 + i ≤ 17) := by omega
  have a4 : ¬ (20 + i = 1) := by omega
  have a5 : 20 ≤ 20 + i := by omega
  have a6 : ¬ (20 + i = 0) := by omega
  have a7 : i < 8 := by omega
  have a8 : 20 + i - 20 = i := by omega
  have a9 : 20 + i ≤ 27 := by omega
  simp (disch := first | assumption | omega) only [e_m_now, x_m_now_0, x_m_now_1, x_m_now_2, x_m_now_3, x_m_now_4, x_m_now_7, x_m_now_10, x_m_now_11, x_m_now_12, x_m_now_15, x_m_now_18, x_m_now_21, x_m_now_24, x_m_now_25, x_m_now_26, x_m_now_28, x_m_now_29, x_m_now_32, x_m_now_35, x_m_now_36, x_m_now_37, x_m_now_40, x_m_now_43, x_m_now_46, x_m_now_49, x_m_now_50, x_m_now_51, x_m_now_53, x_m_now_54, x_m_now_57, x_m_now_60, x_m_now_61, x_m_now_64, x_m_now_65, x_m_now_66, x_m_now_67, x_m_now_70, x_m_now_71, x_m_now_72, x_m_now_73, x_m_now_74, x_m_now_77, x_m_now_80, x_m_now_83, x_m_now_84, x_m_now_85, x_m_now_88, x_m_now_89, x_m_now_90, x_m_now_93, x_m_now_94, x_m_now_95, x_m_now_98, e_m_looks, x_m_looks_0, x_m_looks_1, x_m_looks_2, x_m_looks_5, x_m_looks_6, x_m_looks_9, x_m_looks_10, x_m_looks_11, x_m_looks_12, x_m_looks_15, x_m_looks_16, x_m_looks_19, x_m_looks_22, x_m_looks_23, x_m_looks_25, x_m_looks_28, x_m_looks_29, x_m_looks_30, x_m_looks_32, x_m_looks_33, x_m_looks_36, x_m_looks_39, x_m_looks_40, x_m_looks_41, x_m_looks_43, x_m_looks_44, x_m_looks_47, x_m_looks_50, x_m_looks_51, x_m_looks_52, x_m_looks_54, x_m_looks_57, x_m_looks_58, x_m_looks_61, x_m_looks_64, x_m_looks_65, x_m_looks_68, x_m_looks_69, x_m_looks_72, x_m_looks_75, x_m_looks_78, q_i2l, sp_isInN, XK_s, b01_eq0, Nat.zero_le, Nat.le_refl, hp1, not_true_eq_false, not_false_eq_true, if_false, if_true, true_and, and_false, and_true, false_and, z11, or_true, sp_weighs hG hB hn, XK_n, q_eq, q_le, q_sub, a1, a2, a3, a4, a5, a6, a8, a9, sp_isItemN, hi, sp_m_rightAll (f := WN G) (FR_G (FR_weighs iv jv (WN G)) hG) hB a7 (WN_ge jv) hf, sp_m_all (WN_6 jv _) hf, sp_m_times, fl_fl, (show ¬ ((1 : Nat) = 0) from by decide)]
  rw [sp_part2 (fun _ => rfl) (fun _ => rfl) (fun _ => g2) (fun h => ⟨tv16_pos (WN_nz hn) (orf (orf h).1).2 (orf h).2, g3⟩) hp]
  simp only [XK_s, x_m_now_0, x_m_now_1, x_m_now_2, x_m_now_3, x_m_now_4, x_m_now_7, x_m_now_10, x_m_now_11, x_m_now_12, x_m_now_15, x_m_now_18, x_m_now_21, x_m_now_24, x_m_now_25, x_m_now_26, x_m_now_28, x_m_now_29, x_m_now_32, x_m_now_35, x_m_now_36, x_m_now_37, x_m_now_40, x_m_now_43, x_m_now_46, x_m_now_49, x_m_now_50, x_m_now_51, x_m_now_53, x_m_now_54, x_m_now_57, x_m_now_60, x_m_now_61, x_m_now_64, x_m_now_65, x_m_now_66, x_m_now_67, x_m_now_70, x_m_now_71, x_m_now_72, x_m_now_73, x_m_now_74, x_m_now_77, x_m_now_80, x_m_now_83, x_m_now_84, x_m_now_85, x_m_now_88, x_m_now_89, x_m_now_90, x_m_now_93, x_m_now_94, x_m_now_95, x_m_now_98]
  exact hQ _ _ FR_looks
end REF7
