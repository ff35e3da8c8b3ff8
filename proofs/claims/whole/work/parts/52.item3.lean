section ITEM3
variable {d : Nat} {iv : mI} {jv : mJ} {Q : Option Value → mH → Prop} {q : Nat}
theorem io_m {wk st : Nat} (hst : st < 6) : XT (d + 2) Yi_isOf 7 [.ref q, .int (nI wk), .int (-1), .int (nI st)] [] iv jv Q = Q (some (.int (nI 0))) (mk iv jv) := by
  have h4 : ¬ 6 ≤ st := by omega
  have p : ¬ (((0 : Nat) : Int) ≤ (-1 : Int32).toInt ∧ (-1 : Int32).toInt ≤ ((5 : Nat) : Int)) := by decide
  rw [x_i_isOf_7]
  simp (disch := first | assumption | omega) only [x_i_isOf_0, x_i_isOf_1, x_i_isOf_4, x_i_isOf_5, x_i_isOf_6, x_i_isOf_8, x_i_isOf_10, x_i_isOf_13, x_i_isOf_14, x_i_isOf_17, x_i_isOf_20, x_i_isOf_21, x_i_isOf_22, x_i_isOf_25, x_i_isOf_26, x_i_isOf_27, x_i_isOf_30, x_i_isOf_31, x_i_isOf_32, x_i_isOf_33, x_i_isOf_36, x_i_isOf_39, x_i_isOf_40, q_le, h4, if_false, sp_t_isKind, XK_s, b01_eq0, eq_false p, not_false_eq_true, if_true, z01, true_or, true_and]
theorem io_s {wk st kd : Nat} (hst : st < 6) (hw : wk < 6) (hk : kd ≤ 5) : XT (d + 2) Yi_isOf 7 [.ref q, .int (nI wk), .int (nI kd), .int (nI st)] [] iv jv Q = if kd = wk then Q (some (.int (nI 1))) (mk iv jv) else XT (d + 2) Yi_isOf 7 [.ref q, .int (nI wk), .int (abv kd), .int (nI (st + 1))] [] iv jv Q := by
  have h4 : ¬ 6 ≤ st := by omega
  have p : ((0 : Nat) : Int) ≤ (nI kd).toInt ∧ (nI kd).toInt ≤ ((5 : Nat) : Int) := by rw [nI_toI (by omega)]; omega
  rw [x_i_isOf_7]
  by_cases h : kd = wk
  · simp (disch := first | assumption | omega) only [x_i_isOf_0, x_i_isOf_1, x_i_isOf_4, x_i_isOf_5, x_i_isOf_6, x_i_isOf_8, x_i_isOf_10, x_i_isOf_13, x_i_isOf_14, x_i_isOf_17, x_i_isOf_20, x_i_isOf_21, x_i_isOf_22, x_i_isOf_25, x_i_isOf_26, x_i_isOf_27, x_i_isOf_30, x_i_isOf_31, x_i_isOf_32, x_i_isOf_33, x_i_isOf_36, x_i_isOf_39, x_i_isOf_40, q_le, h4, if_false, sp_t_isKind, XK_s, b01_eq0, eq_true p, not_true_eq_false, if_true, q_eq, eq_true h, z11, or_true, true_and]
  · simp (disch := first | assumption | omega) only [x_i_isOf_0, x_i_isOf_1, x_i_isOf_4, x_i_isOf_5, x_i_isOf_6, x_i_isOf_8, x_i_isOf_10, x_i_isOf_13, x_i_isOf_14, x_i_isOf_17, x_i_isOf_20, x_i_isOf_21, x_i_isOf_22, x_i_isOf_25, x_i_isOf_26, x_i_isOf_27, x_i_isOf_30, x_i_isOf_31, x_i_isOf_32, x_i_isOf_33, x_i_isOf_36, x_i_isOf_39, x_i_isOf_40, q_le, h4, if_false, sp_t_isKind, XK_s, b01_eq0, eq_true p, not_true_eq_false, if_true, q_eq, eq_false h, q_in, q_tn, true_and, q_add]
theorem sp_i_isOf {wk kd : Nat} (hq : shp q = (2, 10)) (h0 : iv q 0 = nI kd) (hk : kd ≤ 5) (hw : wk < 6) : XM (d + 3) Yi_isOf [.ref q, .int (nI wk)] iv jv Q = Q (some (.int (b01 (undr kd wk = true)))) (mk iv jv) := by
  simp (disch := first | assumption | omega) only [e_i_isOf, x_i_isOf_0, x_i_isOf_1, x_i_isOf_4, x_i_isOf_5, x_i_isOf_6, x_i_isOf_8, x_i_isOf_10, x_i_isOf_13, x_i_isOf_14, x_i_isOf_17, x_i_isOf_20, x_i_isOf_21, x_i_isOf_22, x_i_isOf_25, x_i_isOf_26, x_i_isOf_27, x_i_isOf_30, x_i_isOf_31, x_i_isOf_32, x_i_isOf_33, x_i_isOf_36, x_i_isOf_39, x_i_isOf_40, hq, true_and, h0]
  have g0 : ∀ st, st < 5 → XT (d + 2) Yi_isOf 7 [.ref q, .int (nI wk), .int (nI 0), .int (nI st)] [] iv jv Q = if 0 = wk then Q (some (.int (nI 1))) (mk iv jv) else Q (some (.int (nI 0))) (mk iv jv) := by
    intro st hst
    rw [io_s (by omega) hw (by decide)]
    show (if 0 = wk then _ else XT (d + 2) Yi_isOf 7 [_, _, .int (-1), _] _ _ _ _) = _
    rw [io_m (by omega)]
  have g1 : ∀ st, st < 4 → XT (d + 2) Yi_isOf 7 [.ref q, .int (nI wk), .int (nI 1), .int (nI st)] [] iv jv Q = if 1 = wk then Q (some (.int (nI 1))) (mk iv jv) else if 0 = wk then Q (some (.int (nI 1))) (mk iv jv) else Q (some (.int (nI 0))) (mk iv jv) := by
    intro st hst
    rw [io_s (by omega) hw (by decide), ← g0 (st + 1) (by omega)]
    rfl
  have g2 : ∀ st, st < 4 → XT (d + 2) Yi_isOf 7 [.ref q, .int (nI wk), .int (nI 2), .int (nI st)] [] iv jv Q = if 2 = wk then Q (some (.int (nI 1))) (mk iv jv) else if 0 = wk then Q (some (.int (nI 1))) (mk iv jv) else Q (some (.int (nI 0))) (mk iv jv) := by
    intro st hst
    rw [io_s (by omega) hw (by decide), ← g0 (st + 1) (by omega)]
    rfl
  have g3 : XT (d + 2) Yi_isOf 7 [.ref q, .int (nI wk), .int (nI 3), .int (nI 0)] [] iv jv Q = if 3 = wk then Q (some (.int (nI 1))) (mk iv jv) else XT (d + 2) Yi_isOf 7 [.ref q, .int (nI wk), .int (nI 1), .int (nI 1)] [] iv jv Q := by
    rw [io_s (by omega) hw (by decide)]
    rfl
  have g4 : XT (d + 2) Yi_isOf 7 [.ref q, .int (nI wk), .int (nI 4), .int (nI 0)] [] iv jv Q = if 4 = wk then Q (some (.int (nI 1))) (mk iv jv) else XT (d + 2) Yi_isOf 7 [.ref q, .int (nI wk), .int (nI 2), .int (nI 1)] [] iv jv Q := by
    rw [io_s (by omega) hw (by decide)]
    rfl
  have g5 : XT (d + 2) Yi_isOf 7 [.ref q, .int (nI wk), .int (nI 5), .int (nI 0)] [] iv jv Q = if 5 = wk then Q (some (.int (nI 1))) (mk iv jv) else XT (d + 2) Yi_isOf 7 [.ref q, .int (nI wk), .int (nI 0), .int (nI 1)] [] iv jv Q := by
    rw [io_s (by omega) hw (by decide)]
    rfl
  rw [g1 1 (by decide)] at g3
  rw [g2 1 (by decide)] at g4
  rw [g0 1 (by decide)] at g5
  clear h0
  match kd, hk with
  | 0, _ => rw [g0 0 (by decide)]; match wk, hw with | 0, _ | 1, _ | 2, _ | 3, _ | 4, _ | 5, _ => rfl
  | 1, _ => rw [g1 0 (by decide)]; match wk, hw with | 0, _ | 1, _ | 2, _ | 3, _ | 4, _ | 5, _ => rfl
  | 2, _ => rw [g2 0 (by decide)]; match wk, hw with | 0, _ | 1, _ | 2, _ | 3, _ | 4, _ | 5, _ => rfl
  | 3, _ => rw [g3]; match wk, hw with | 0, _ | 1, _ | 2, _ | 3, _ | 4, _ | 5, _ => rfl
  | 4, _ => rw [g4]; match wk, hw with | 0, _ | 1, _ | 2, _ | 3, _ | 4, _ | 5, _ => rfl
  | 5, _ => rw [g5]; match wk, hw with | 0, _ | 1, _ | 2, _ | 3, _ | 4, _ | 5, _ => rfl
theorem cpi_ne {iv : mI} {a b sp dp n x k : Nat} (h : x ≠ a) : cpi iv a b sp dp n x k = iv x k := by unfold cpi; rw [if_neg h]
theorem cpi_at {iv : mI} {a b n k : Nat} (h : k < n) : cpi iv a b 0 0 n a k = iv b k := by
  unfold cpi; rw [if_pos rfl, if_pos (by omega), show 0 + (k - 0) = k from by omega]
theorem sp_i_copyFrom {k a h s e g v : Nat} {hd rp : Int32} (hq : shp q = (2, 10)) (hq1 : shp (q + 1) = (16, 9)) (hq2 : shp (q + 2) = (16, 9)) (hv : shp v = (2, 10)) (hv1 : shp (v + 1) = (16, 9)) (hv2 : shp (v + 2) = (16, 9)) (hd1 : hd = nI 0 ∨ hd = nI 1) (hvq : v + 2 < q ∨ q + 2 < v) (hn : q + 2 < 1000 ∧ v + 2 < 1000) (hT : IT v k a h s e g hd rp iv) (hQ : ∀ iv', FQ q iv iv' → IT q k a h s e g hd rp iv' → Q none (mk iv' jv)) : XM (d + 1) Yi_copyFrom [.ref q, .ref v] iv jv Q := by
  obtain ⟨⟨f0, f1, f2, f3, f4, f5, f6, f7⟩, fr, ft⟩ := hT
  have n0 : ¬ (nI 0 < 0) := by decide
  have n9 : ¬ (nI 9 < 0) := by decide
  have z0 : 0 + 9 ≤ 9 := by decide
  have q17 : (shp (q + 1)).1 = 16 := by rw [hq1]
  have q18 : (shp (q + 2)).1 = 16 := by rw [hq2]
  have hd2 : (iv v 6 = nI 0 ∨ iv v 6 = nI 1) = True := by rw [f6]; exact eq_true hd1
  have un : ∀ (iv : mI) (j m : Nat) (x : Int32), upi iv q j x v m = iv v m := fun iv j m x => upi_ne (by omega)
  have r1 : v + 1 ≠ 1001 := by omega
  have r2 : v + 2 ≠ 1001 := by omega
  have r3 : q + 1 ≠ 1001 := by omega
  have r4 : q + 2 ≠ 1001 := by omega
  simp (disch := first | assumption | omega) only [e_i_copyFrom, x_i_copyFrom_0, x_i_copyFrom_1, x_i_copyFrom_2, x_i_copyFrom_5, x_i_copyFrom_8, x_i_copyFrom_9, x_i_copyFrom_10, x_i_copyFrom_13, x_i_copyFrom_16, x_i_copyFrom_17, x_i_copyFrom_18, x_i_copyFrom_21, x_i_copyFrom_24, x_i_copyFrom_25, x_i_copyFrom_26, x_i_copyFrom_29, x_i_copyFrom_32, x_i_copyFrom_33, x_i_copyFrom_34, x_i_copyFrom_37, x_i_copyFrom_40, x_i_copyFrom_41, x_i_copyFrom_42, x_i_copyFrom_45, x_i_copyFrom_48, x_i_copyFrom_49, x_i_copyFrom_50, x_i_copyFrom_53, x_i_copyFrom_56, x_i_copyFrom_57, x_i_copyFrom_58, x_i_copyFrom_61, x_i_copyFrom_64, x_i_copyFrom_65, x_i_copyFrom_68, x_i_copyFrom_69, x_i_copyFrom_70, x_i_copyFrom_73, x_i_copyFrom_74, x_i_copyFrom_76, x_i_copyFrom_79, x_i_copyFrom_80, x_i_copyFrom_83, x_i_copyFrom_84, x_i_copyFrom_85, x_i_copyFrom_88, x_i_copyFrom_89, x_i_copyFrom_91, x_i_copyFrom_94, hq, hq1, hq2, hv, hv1, hv2, n0, n9, q_tn, z0, Nat.le_refl, not_false_eq_true, true_and, un, f0, f1, f2, f3, f4, f5, hd2, f6, f7, hd1, eq_false r1, eq_false r2, eq_false r3, eq_false r4]
  sorry
end ITEM3
