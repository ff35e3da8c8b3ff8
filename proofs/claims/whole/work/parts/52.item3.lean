section ITEM3
variable {d : Nat} {iv : mI} {jv : mJ} {Q : Option Value → mH → Prop} {q : Nat}
theorem io_m {wk st : Nat} (hst : st < 6) : XT (d + 2) Yi_isOf 7 [.ref q, .int (nI wk), .int (-1), .int (nI st)] [] iv jv Q = Q (some (.int (nI 0))) (mk iv jv) := by
  have h4 : ¬ 6 ≤ st := by omega
  have p : ¬ (((0 : Nat) : Int) ≤ (-1 : Int32).toInt ∧ (-1 : Int32).toInt ≤ ((5 : Nat) : Int)) := by decide
  rw [x_i_isOf_7]
  simp (disch := first | assumption | omega) only [x_i_isOf_0, x_i_isOf_1, x_i_isOf_4, x_i_isOf_5, x_i_isOf_6, x_i_isOf_8, x_i_isOf_10, x_i_isOf_13, x_i_isOf_14, x_i_isOf_17, x_i_isOf_20, x_i_isOf_21, x_i_isOf_22, x_i_isOf_25, x_i_isOf_26, x_i_isOf_27, x_i_isOf_30, x_i_isOf_31, x_i_isOf_32, x_i_isOf_33, x_i_isOf_36, x_i_isOf_39, x_i_isOf_40, q_le, h4, if_false, sp_t_isKind, XK_s, b01_eq0, eq_false p, not_false_eq_true, if_true, z01, true_or, true_and]
theorem io_s {wk st kd : Nat} (hst : st < 6) (hw : wk < 6) (hk : kd ≤ 5) : XT (d + 2) Yi_isOf 7 [.ref q, .int (nI wk), .int (nI kd), .int (nI st)] [] iv jv Q = if kd = wk then Q (some (.int (nI 1))) (mk iv jv) else XT (d + 2) Yi_isOf 7 [.ref q, .int (nI wk), .int (abv kd), .int (nI (st + 1))] [] iv jv Q := by
  have h4 : ¬ 6 ≤ st := by omega
  have p : ((0 : Nat) : Int) ≤ (nI kd).toInt ∧ (nI kd).toInt ≤ ((5 : Nat) : Int) := by rw [nI_toI (by omega)]; omega
  rw [x_i_isOf_7]
  by_cases h : kd = wk
  · simp (disch := first | assumption | omega) only [x_i_isOf_0, x_i_isOf_1, x_i_isOf_4, x_i_isOf_5, x_i_isOf_6, x_i_isOf_8, x_i_isOf_10, x_i_isOf_13, x_i_isOf_14, x_i_isOf_17, x_i_isOf_20, x_i_isOf_21, x_i_isOf_22, x_i_isOf_25, x_i_isOf_26, x_i_isOf_27, x_i_isOf_30, x_i_isOf_31, x_i_isOf_32, x_i_isOf_33, x_i_isOf_36, x_i_isOf_39, x_i_isOf_40, q_le, h4, if_false, sp_t_isKind, XK_s, b01_eq0, eq_true p, not_true_eq_false, if_true, q_eq, eq_true h, z11, or_true, true_and]
  · simp (disch := first | assumption | omega) only [x_i_isOf_0, x_i_isOf_1, x_i_isOf_4, x_i_isOf_5, x_i_isOf_6, x_i_isOf_8, x_i_isOf_10, x_i_isOf_13, x_i_isOf_14, x_i_isOf_17, x_i_isOf_20, x_i_isOf_21, x_i_isOf_22, x_i_isOf_25, x_i_isOf_26, x_i_isOf_27, x_i_isOf_30, x_i_isOf_31, x_i_isOf_32, x_i_isOf_33, x_i_isOf_36, x_i_isOf_39, x_i_isOf_40, q_le, h4, if_false, sp_t_isKind, XK_s, b01_eq0, eq_true p, not_true_eq_false, if_true, q_eq, eq_false h, q_in, q_tn, true_and, q_add]
theorem sp_i_isOf {wk kd : Nat} (hq : shp q = (2, 10)) (h0 : iv q 0 = nI kd) (hk : kd ≤ 5) (hw : wk < 6) : XM (d + 3) Yi_isOf [.ref q, .int (nI wk)] iv jv Q = Q (some (.int (b01 (undr kd wk = true)))) (mk iv jv) := by
  simp (disch := first | assumption | omega) only [e_i_isOf, x_i_isOf_0, x_i_isOf_1, x_i_isOf_4, x_i_isOf_5, x_i_isOf_6, x_i_isOf_8, x_i_isOf_10, x_i_isOf_13, x_i_isOf_14, x_i_isOf_17, x_i_isOf_20, x_i_isOf_21, x_i_isOf_22, x_i_isOf_25, x_i_isOf_26, x_i_isOf_27, x_i_isOf_30, x_i_isOf_31, x_i_isOf_32, x_i_isOf_33, x_i_isOf_36, x_i_isOf_39, x_i_isOf_40, hq, true_and, h0]
  have g0 : ∀ st, st < 5 → XT (d + 2) Yi_isOf 7 [.ref q, .int (nI wk), .int (nI 0), .int (nI st)] [] iv jv Q = if 0 = wk then Q (some (.int (nI 1))) (mk iv jv) else Q (some (.int (nI 0))) (mk iv jv) := by
    intro st hst
    rw [io_s (by omega) hw (by decide)]
    show (if 0 = wk then _ else XT (d + 2) Yi_isOf 7 [_, _, .int (-1), _] _ _ _ _) = _
    rw [io_m (by omega)]
  have g1 : ∀ st, st < 4 → XT (d + 2) Yi_isOf 7 [.ref q, .int (nI wk), .int (nI 1), .int (nI st)] [] iv jv Q = if 1 = wk then Q (some (.int (nI 1))) (mk iv jv) else if 0 = wk then Q (some (.int (nI 1))) (mk iv jv) else Q (some (.int (nI 0))) (mk iv jv) := by
    intro st hst
    rw [io_s (by omega) hw (by decide), ← g0 (st + 1) (by omega)]
    rfl
  have g2 : ∀ st, st < 4 → XT (d + 2) Yi_isOf 7 [.ref q, .int (nI wk), .int (nI 2), .int (nI st)] [] iv jv Q = if 2 = wk then Q (some (.int (nI 1))) (mk iv jv) else if 0 = wk then Q (some (.int (nI 1))) (mk iv jv) else Q (some (.int (nI 0))) (mk iv jv) := by
    intro st hst
    rw [io_s (by omega) hw (by decide), ← g0 (st + 1) (by omega)]
    rfl
  have g3 : XT (d + 2) Yi_isOf 7 [.ref q, .int (nI wk), .int (nI 3), .int (nI 0)] [] iv jv Q = if 3 = wk then Q (some (.int (nI 1))) (mk iv jv) else XT (d + 2) Yi_isOf 7 [.ref q, .int (nI wk), .int (nI 1), .int (nI 1)] [] iv jv Q := by
    rw [io_s (by omega) hw (by decide)]
    rfl
  have g4 : XT (d + 2) Yi_isOf 7 [.ref q, .int (nI wk), .int (nI 4), .int (nI 0)] [] iv jv Q = if 4 = wk then Q (some (.int (nI 1))) (mk iv jv) else XT (d + 2) Yi_isOf 7 [.ref q, .int (nI wk), .int (nI 2), .int (nI 1)] [] iv jv Q := by
    rw [io_s (by omega) hw (by decide)]
    rfl
  have g5 : XT (d + 2) Yi_isOf 7 [.ref q, .int (nI wk), .int (nI 5), .int (nI 0)] [] iv jv Q = if 5 = wk then Q (some (.int (nI 1))) (mk iv jv) else XT (d + 2) Yi_isOf 7 [.ref q, .int (nI wk), .int (nI 0), .int (nI 1)] [] iv jv Q := by
    rw [io_s (by omega) hw (by decide)]
    rfl
  rw [g1 1 (by decide)] at g3
  rw [g2 1 (by decide)] at g4
  rw [g0 1 (by decide)] at g5
  clear h0
  match kd, hk with
  | 0, _ => rw [g0 0 (by decide)]; match wk, hw with | 0, _ | 1, _ | 2, _ | 3, _ | 4, _ | 5, _ => rfl
  | 1, _ => rw [g1 0 (by decide)]; match wk, hw with | 0, _ | 1, _ | 2, _ | 3, _ | 4, _ | 5, _ => rfl
  | 2, _ => rw [g2 0 (by decide)]; match wk, hw with | 0, _ | 1, _ | 2, _ | 3, _ | 4, _ | 5, _ => rfl
  | 3, _ => rw [g3]; match wk, hw with | 0, _ | 1, _ | 2, _ | 3, _ | 4, _ | 5, _ => rfl
  | 4, _ => rw [g4]; match wk, hw with | 0, _ | 1, _ | 2, _ | 3, _ | 4, _ | 5, _ => rfl
  | 5, _ => rw [g5]; match wk, hw with | 0, _ | 1, _ | 2, _ | 3, _ | 4, _ | 5, _ => rfl
theorem cpi_ne {iv : mI} {a b sp dp n x k : Nat} (h : x ≠ a) : cpi iv a b sp dp n x k = iv x k := by unfold cpi; rw [if_neg h]
theorem cpi_at {iv : mI} {a b n k : Nat} (h : k < n) : cpi iv a b 0 0 n a k = iv b k := by
  unfold cpi; rw [if_pos rfl, if_pos (by omega), show 0 + (k - 0) = k from by omega]
theorem sp_i_copyFrom {v : Nat} (hq : shp q = (2, 10)) (hq1 : shp (q + 1) = (16, 9)) (hq2 : shp (q + 2) = (16, 9)) (hv : shp v = (2, 10)) (hv1 : shp (v + 1) = (16, 9)) (hv2 : shp (v + 2) = (16, 9)) (hd1 : iv v 6 = nI 0 ∨ iv v 6 = nI 1) (hvq : v + 2 < q ∨ q + 2 < v) (hn : q + 2 < 1000 ∧ v + 2 < 1000) (hQ : ∀ iv', FQ q iv iv' → (∀ j, j < 8 → iv' q j = iv v j) → (∀ l, l < 9 → iv' (q + 1) l = iv (v + 1) l) → (∀ l, l < 9 → iv' (q + 2) l = iv (v + 2) l) → Q none (mk iv' jv)) : XM (d + 1) Yi_copyFrom [.ref q, .ref v] iv jv Q := by
  have n0 : ¬ (nI 0 < 0) := by decide
  have n9 : ¬ (nI 9 < 0) := by decide
  have z0 : 0 + 9 ≤ 9 := by decide
  have q17 : (shp (q + 1)).1 = 16 := by rw [hq1]
  have q18 : (shp (q + 2)).1 = 16 := by rw [hq2]
  have hd2 : (iv v 6 = nI 0 ∨ iv v 6 = nI 1) = True := eq_true hd1
  have un : ∀ (iv : mI) (j m : Nat) (x : Int32), upi iv q j x v m = iv v m := fun iv j m x => upi_ne (by omega)
  have r1 : v + 1 ≠ 1001 := by omega
  have r2 : v + 2 ≠ 1001 := by omega
  have r3 : q + 1 ≠ 1001 := by omega
  have r4 : q + 2 ≠ 1001 := by omega
  simp (disch := first | assumption | omega) only [e_i_copyFrom, x_i_copyFrom_0, x_i_copyFrom_1, x_i_copyFrom_2, x_i_copyFrom_5, x_i_copyFrom_8, x_i_copyFrom_9, x_i_copyFrom_10, x_i_copyFrom_13, x_i_copyFrom_16, x_i_copyFrom_17, x_i_copyFrom_18, x_i_copyFrom_21, x_i_copyFrom_24, x_i_copyFrom_25, x_i_copyFrom_26, x_i_copyFrom_29, x_i_copyFrom_32, x_i_copyFrom_33, x_i_copyFrom_34, x_i_copyFrom_37, x_i_copyFrom_40, x_i_copyFrom_41, x_i_copyFrom_42, x_i_copyFrom_45, x_i_copyFrom_48, x_i_copyFrom_49, x_i_copyFrom_50, x_i_copyFrom_53, x_i_copyFrom_56, x_i_copyFrom_57, x_i_copyFrom_58, x_i_copyFrom_61, x_i_copyFrom_64, x_i_copyFrom_65, x_i_copyFrom_68, x_i_copyFrom_69, x_i_copyFrom_70, x_i_copyFrom_73, x_i_copyFrom_74, x_i_copyFrom_76, x_i_copyFrom_79, x_i_copyFrom_80, x_i_copyFrom_83, x_i_copyFrom_84, x_i_copyFrom_85, x_i_copyFrom_88, x_i_copyFrom_89, x_i_copyFrom_91, x_i_copyFrom_94, hq, hq1, hq2, hv, hv1, hv2, n0, n9, q_tn, z0, Nat.le_refl, not_false_eq_true, true_and, un, hd2, eq_false r1, eq_false r2, eq_false r3, eq_false r4]
  refine hQ _ (fun x j h1 h2 h3 => ?_) (fun j hj => ?_) (fun l hl => ?_) (fun l hl => ?_)
  · rw [cpi_ne h3, cpi_ne h2]
    simp [upi, h1]
  · rw [cpi_ne (by omega), cpi_ne (by omega)]
    have h8 : j = 0 ∨ j = 1 ∨ j = 2 ∨ j = 3 ∨ j = 4 ∨ j = 5 ∨ j = 6 ∨ j = 7 := by omega
    rcases h8 with rfl | rfl | rfl | rfl | rfl | rfl | rfl | rfl <;> simp [upi]
  · rw [cpi_ne (by omega), cpi_at hl, upi_ne (by omega), upi_ne (by omega), upi_ne (by omega), upi_ne (by omega), upi_ne (by omega), upi_ne (by omega), upi_ne (by omega), upi_ne (by omega)]
  · rw [cpi_at hl, cpi_ne (by omega), upi_ne (by omega), upi_ne (by omega), upi_ne (by omega), upi_ne (by omega), upi_ne (by omega), upi_ne (by omega), upi_ne (by omega), upi_ne (by omega)]
/-! a SHEET -/
theorem sp_h_has {n : Nat} (x y : Int32) (hq : shp q = (3, 3)) (h1 : iv q 1 = nI n) (hn : n ≤ 40) : XM (d + 1) Yh_has [.ref q, .int x, .int y] iv jv Q = Q (some (.int (b01 (0 ≤ x.toInt ∧ 0 ≤ y.toInt ∧ x.toInt + y.toInt ≤ (n : Int))))) (mk iv jv) := by
  by_cases a1 : x.toInt < ((0 : Nat) : Int)
  · have e : ¬ (0 ≤ x.toInt ∧ 0 ≤ y.toInt ∧ x.toInt + y.toInt ≤ (n : Int)) := by omega
    rw [b01_f e]
    simp (disch := first | assumption | omega) only [e_h_has, x_h_has_0, x_h_has_1, x_h_has_4, x_h_has_5, x_h_has_8, x_h_has_9, x_h_has_10, x_h_has_13, x_h_has_16, x_h_has_17, x_h_has_18, x_h_has_21, x_h_has_22, x_h_has_23, x_h_has_26, x_h_has_27, x_h_has_30, x_h_has_31, t_lt, a1, if_true, z01, true_or, true_and]
  · by_cases a2 : y.toInt < ((0 : Nat) : Int)
    · have e : ¬ (0 ≤ x.toInt ∧ 0 ≤ y.toInt ∧ x.toInt + y.toInt ≤ (n : Int)) := by omega
      rw [b01_f e]
      simp (disch := first | assumption | omega) only [e_h_has, x_h_has_0, x_h_has_1, x_h_has_4, x_h_has_5, x_h_has_8, x_h_has_9, x_h_has_10, x_h_has_13, x_h_has_16, x_h_has_17, x_h_has_18, x_h_has_21, x_h_has_22, x_h_has_23, x_h_has_26, x_h_has_27, x_h_has_30, x_h_has_31, t_lt, a1, a2, if_true, if_false, z01, true_or, true_and]
    · by_cases a3 : ((n : Nat) : Int) < y.toInt
      · have e : ¬ (0 ≤ x.toInt ∧ 0 ≤ y.toInt ∧ x.toInt + y.toInt ≤ (n : Int)) := by omega
        rw [b01_f e]
        simp (disch := first | assumption | omega) only [e_h_has, x_h_has_0, x_h_has_1, x_h_has_4, x_h_has_5, x_h_has_8, x_h_has_9, x_h_has_10, x_h_has_13, x_h_has_16, x_h_has_17, x_h_has_18, x_h_has_21, x_h_has_22, x_h_has_23, x_h_has_26, x_h_has_27, x_h_has_30, x_h_has_31, t_lt, t_gt, a1, a2, a3, if_true, if_false, z01, true_or, true_and, hq, h1]
      · have d1 := subN_I y hn (by omega)
        have c1 : (nI n - y < x) = ((n : Int) - y.toInt < x.toInt) := by rw [Int32.lt_iff_toInt_lt, d1]
        by_cases a4 : (n : Int) - y.toInt < x.toInt
        · have e : ¬ (0 ≤ x.toInt ∧ 0 ≤ y.toInt ∧ x.toInt + y.toInt ≤ (n : Int)) := by omega
          rw [b01_f e]
          simp (disch := first | assumption | omega) only [e_h_has, x_h_has_0, x_h_has_1, x_h_has_4, x_h_has_5, x_h_has_8, x_h_has_9, x_h_has_10, x_h_has_13, x_h_has_16, x_h_has_17, x_h_has_18, x_h_has_21, x_h_has_22, x_h_has_23, x_h_has_26, x_h_has_27, x_h_has_30, x_h_has_31, t_lt, t_gt, a1, a2, a3, c1, a4, if_true, if_false, z01, true_or, true_and, hq, h1]
        · have e : 0 ≤ x.toInt ∧ 0 ≤ y.toInt ∧ x.toInt + y.toInt ≤ (n : Int) := by omega
          rw [b01_t e]
          simp (disch := first | assumption | omega) only [e_h_has, x_h_has_0, x_h_has_1, x_h_has_4, x_h_has_5, x_h_has_8, x_h_has_9, x_h_has_10, x_h_has_13, x_h_has_16, x_h_has_17, x_h_has_18, x_h_has_21, x_h_has_22, x_h_has_23, x_h_has_26, x_h_has_27, x_h_has_30, x_h_has_31, t_lt, t_gt, a1, a2, a3, c1, a4, if_true, if_false, z11, or_true, true_and, hq, h1]
theorem sp_h_write {n i : Nat} {v : Int32} (hq : shp q = (3, 3)) (hq1 : shp (q + 1) = (16, 40)) (hn1 : q + 1 ≠ 1001) (h1 : iv q 1 = nI n) (hn : n ≤ 40) (hi : i < n) : XM (d + 2) Yh_write [.ref q, .int (nI i), .int v] iv jv Q = Q none (mk (upi iv (q + 1) i (if iv q 0 = nI 0 then v.toInt8.toInt32 else v)) jv) := by
  have ei := nI_toI (k := i) (by omega)
  have e1 := nI_toI (k := 1) (by omega)
  have e : 0 ≤ (nI i).toInt ∧ 0 ≤ (nI 1).toInt ∧ (nI i).toInt + (nI 1).toInt ≤ (n : Int) := by rw [ei, e1]; omega
  by_cases p : iv q 0 = nI 0
  · simp (disch := first | assumption | omega) only [e_h_write, x_h_write_0, x_h_write_1, x_h_write_2, x_h_write_3, x_h_write_6, x_h_write_9, x_h_write_10, x_h_write_13, x_h_write_14, x_h_write_15, x_h_write_18, x_h_write_21, x_h_write_22, x_h_write_23, x_h_write_26, x_h_write_27, x_h_write_28, hq, hq1, eq_false hn1, true_and, true_or, sp_h_has (nI i) (nI 1) hq h1 hn, XK_s, b01_eq0, eq_true e, not_true_eq_false, if_false, if_true, eq_true p, q_in, q_tn]
  · simp (disch := first | assumption | omega) only [e_h_write, x_h_write_0, x_h_write_1, x_h_write_2, x_h_write_3, x_h_write_6, x_h_write_9, x_h_write_10, x_h_write_13, x_h_write_14, x_h_write_15, x_h_write_18, x_h_write_21, x_h_write_22, x_h_write_23, x_h_write_26, x_h_write_27, x_h_write_28, hq, hq1, eq_false hn1, true_and, true_or, sp_h_has (nI i) (nI 1) hq h1 hn, XK_s, b01_eq0, eq_true e, not_true_eq_false, if_false, if_true, eq_false p, q_in, q_tn]
theorem lp_h_become {x y : Int32} (hq : shp q = (3, 3)) (hq1 : shp (q + 1) = (16, 40)) (hn1 : q + 1 ≠ 1001) (hQ : ∀ iv', (∀ a k, a ≠ q + 1 → iv' a k = iv a k) → (∀ k, k < 40 → iv' (q + 1) k = nI 0) → Q none (mk iv' jv)) : ∀ m k, k + m = 40 → ∀ iv1, (∀ a k, a ≠ q + 1 → iv1 a k = iv a k) → (∀ k', k' < k → iv1 (q + 1) k' = nI 0) → XT d Yh_become 26 [.ref q, .int x, .int y, .int (nI k)] [] iv1 jv Q := by
  intro m
  induction m with
  | zero =>
    intro k hk iv1 hF h5
    obtain rfl : k = 40 := by omega
    rw [x_h_become_26]
    simp (disch := first | assumption | omega) only [x_h_become_0, x_h_become_1, x_h_become_2, x_h_become_5, x_h_become_6, x_h_become_7, x_h_become_8, x_h_become_10, x_h_become_13, x_h_become_16, x_h_become_17, x_h_become_20, x_h_become_21, x_h_become_24, x_h_become_25, x_h_become_27, x_h_become_29, x_h_become_32, x_h_become_33, x_h_become_36, x_h_become_37, x_h_become_38, x_h_become_39, x_h_become_42, x_h_become_45, q_le, Nat.le_refl, if_true]
    exact hQ _ hF h5
  | succ m ih =>
    intro k hk iv1 hF h5
    have h9 : ¬ 40 ≤ k := by omega
    rw [x_h_become_26]
    simp (disch := first | assumption | omega) only [x_h_become_0, x_h_become_1, x_h_become_2, x_h_become_5, x_h_become_6, x_h_become_7, x_h_become_8, x_h_become_10, x_h_become_13, x_h_become_16, x_h_become_17, x_h_become_20, x_h_become_21, x_h_become_24, x_h_become_25, x_h_become_27, x_h_become_29, x_h_become_32, x_h_become_33, x_h_become_36, x_h_become_37, x_h_become_38, x_h_become_39, x_h_become_42, x_h_become_45, q_le, h9, if_false, hq, hq1, eq_false hn1, q_add, q_in, q_tn, true_and, true_or]
    refine ih (k + 1) (by omega) _ (fun a j e => ?_) (fun k' hk' => ?_)
    · rw [upi_ne (fun w => e w.1)]; exact hF a j e
    · by_cases e : k' = k
      · subst e; rw [upi_at]
      · rw [upi_ne (by omega)]; exact h5 k' (by omega)
theorem sp_h_become {n : Nat} {o : Int32} (hq : shp q = (3, 3)) (hq1 : shp (q + 1) = (16, 40)) (hn1 : q + 1 ≠ 1001) (hn : n ≤ 40) (hQ : ∀ iv', (∀ a k, a ≠ q → a ≠ q + 1 → iv' a k = iv a k) → iv' q 0 = o → iv' q 1 = nI n → (∀ k, k < 40 → iv' (q + 1) k = nI 0) → Q none (mk iv' jv)) : XM (d + 2) Yh_become [.ref q, .int o, .int (nI n)] iv jv Q := by
  simp (disch := first | assumption | omega) only [e_h_become, x_h_become_0, x_h_become_1, x_h_become_2, x_h_become_5, x_h_become_6, x_h_become_7, x_h_become_8, x_h_become_10, x_h_become_13, x_h_become_16, x_h_become_17, x_h_become_20, x_h_become_21, x_h_become_24, x_h_become_25, x_h_become_27, x_h_become_29, x_h_become_32, x_h_become_33, x_h_become_36, x_h_become_37, x_h_become_38, x_h_become_39, x_h_become_42, x_h_become_45, hq, true_and, sp_withinN, XK_s, b01_eq0, hn, Nat.zero_le, and_self, not_true_eq_false, if_false]
  refine lp_h_become (iv := upi (upi iv q 0 o) q 1 (nI n)) hq hq1 hn1 (fun iv' h1 h2 => hQ iv' (fun a k e1 e2 => ?_) ?_ ?_ h2) 40 0 (by omega) _ (fun _ _ _ => rfl) (fun k hk => absurd hk (by omega))
  · rw [h1 a k e2, upi_ne (fun w => e1 w.1), upi_ne (fun w => e1 w.1)]
  · rw [h1 q 0 (by omega), upi_ne (by omega), upi_at]
  · rw [h1 q 1 (by omega), upi_at]
end ITEM3
