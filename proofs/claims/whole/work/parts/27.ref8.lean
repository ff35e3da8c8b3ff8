section REF8
variable {d : Nat} {iv : mI} {jv : mJ} {Q : Option Value → mH → Prop} {G : Nat → Nat} {f : Nat → Nat}
def i01 (x : Int32) : Prop := 0 ≤ x.toInt ∧ x.toInt ≤ 1
def isIt (G : Nat → Nat) (x : Int32) : Prop := 0 ≤ x.toInt ∧ x.toInt < (G 29 : Int)
theorem WB_lt {f : Nat → Nat} (G : Nat → Nat) (i r : Nat) (h : ao (cf G i r) f 9 = false) : ∀ l, l < 9 → dv (ml G i r f) l < 9223372036854775808 := fun l hl => by
  have h1 := ao_of h l hl
  have h2 := dv_le (ml G i r f) l
  unfold ml at h2 ⊢
  unfold MX at h1
  omega
def vWould (G f : Nat → Nat) (i r p : Nat) : Int64 := if ao (cf G i r) f 9 = true then -9223372036854775808 else vMean (dv (ml G i r f)) p
theorem FR_goes {f g : Nat → Nat} {b : Bool} {x y : Int64} : FR iv jv (fl (upi iv 118 5 (nI 0)) b) (upj (upj (stW (stW jv f 9) g 9) 118 6 x) 118 7 y) :=
  FR_t (FR_weighs iv jv f) (FR_t (FR_w _ _ g 9) (FR_t (FR_fl _ _ b) (FR_t (FR_j _ _ 6 x) (FR_j _ _ 7 y))))
theorem sp_m_would_bad {x y z : Int32} (hG : ∀ k, k < 101 → jv 119 k = lN (G k)) (hB : IB G) (h : ¬ (isIt G x ∧ i01 y ∧ i01 z)) : XM (d + 8) Ym_would [.ref 118, .int x, .int y, .int z] iv jv Q = Q (some (.long (-9223372036854775808))) (mk iv jv) := by
  have hb := hB.1
  have h29 := hG 29 (by decide)
  unfold isIt i01 at h
  by_cases p1 : 0 ≤ x.toInt ∧ x.toInt < (G 29 : Int) <;> by_cases p2 : ((0 : Nat) : Int) ≤ y.toInt ∧ y.toInt ≤ ((1 : Nat) : Int) <;> by_cases p3 : ((0 : Nat) : Int) ≤ z.toInt ∧ z.toInt ≤ ((1 : Nat) : Int) <;>
  first
  | (exfalso; omega)
  | (simp (disch := first | assumption | omega) only [e_m_would, x_m_would_0, x_m_would_1, x_m_would_2, x_m_would_5, x_m_would_8, x_m_would_9, x_m_would_10, x_m_would_11, x_m_would_12, x_m_would_15, x_m_would_18, x_m_would_19, x_m_would_20, x_m_would_21, x_m_would_22, x_m_would_25, x_m_would_28, x_m_would_31, x_m_would_32, x_m_would_33, x_m_would_36, x_m_would_37, x_m_would_38, x_m_would_39, x_m_would_42, x_m_would_43, x_m_would_44, x_m_would_47, x_m_would_50, x_m_would_51, x_m_would_52, x_m_would_55, x_m_would_58, x_m_would_59, x_m_would_60, x_m_would_63, sp_isInI, XK_s, b01_eq0, p1, p2, p3, sp_m_isItem, not_false_eq_true, not_true_eq_false, if_true, if_false, z01, z11, true_and, or_true, n10])
theorem WN_66 {f g : Nat → Nat} (jv : mJ) (x : Int64) : ∀ l, l < 9 → upj (stW (stW jv f 9) g 9) 118 6 x 122 l = lN (g l) := fun l hl => by rw [upj_ne (by decide)]; exact stW_lt hl
theorem sp_m_would {i r p : Nat} (hG : ∀ k, k < 101 → jv 119 k = lN (G k)) (hB : IB G) (hn : nz (wt G 0)) (hi : i < G 29) (hr : r < 2) (hp : p < 2) (hQ : ∀ iv' jv', FR iv jv iv' jv' → Q (some (.long (vWould G (WN G) i r p))) (mk iv' jv')) : XM (d + 8) Ym_would [.ref 118, .int (nI i), .int (nI r), .int (nI p)] iv jv Q := by
  have hp1 : p ≤ 1 := by omega
  have hr1 : r ≤ 1 := by omega
  have hb := hB.1
  have h29 := hG 29 (by decide)
  have a7 : i < 8 := by omega
  have hf := WN_lt hB
  have hg := fun (R : Option Value → mH → Prop) => sp_m_goesBy (Q := R) (d := d + 3) (iv := upi iv 118 5 (nI 0)) (jv := stW jv (WN G) 9) (f := WN G) (i := i) (r := r) (FR_G (FR_weighs iv jv (WN G)) hG) hB a7 hr (WN_ge jv) hf (WN_nz hn) (upi_at _ _ _ _)
  simp (disch := first | assumption | omega) only [e_m_would, x_m_would_0, x_m_would_1, x_m_would_2, x_m_would_5, x_m_would_8, x_m_would_9, x_m_would_10, x_m_would_11, x_m_would_12, x_m_would_15, x_m_would_18, x_m_would_19, x_m_would_20, x_m_would_21, x_m_would_22, x_m_would_25, x_m_would_28, x_m_would_31, x_m_would_32, x_m_would_33, x_m_would_36, x_m_would_37, x_m_would_38, x_m_would_39, x_m_would_42, x_m_would_43, x_m_would_44, x_m_would_47, x_m_would_50, x_m_would_51, x_m_would_52, x_m_would_55, x_m_would_58, x_m_would_59, x_m_would_60, x_m_would_63, q_i2l, sp_isInN, sp_isItemN, hi, XK_s, b01_eq0, Nat.zero_le, hp1, hr1, not_true_eq_false, if_false, if_true, true_and, and_true, z11, or_true, sp_weighs hG hB hn, XK_n, hg]
  by_cases hao : ao (cf G i r) (WN G) 9 = true
  · rw [if_pos hao]
    have hv : ∀ l, l < 9 → tv (WN G l) (cf G i r l) < 9223372036854775808 := fun l _ => tv_lt _ _
    have hw : ∀ l, l < 9 → stW (stW jv (WN G) 9) (fun l => tv (WN G l) (cf G i r l)) 9 122 l = lN ((fun l => tv (WN G l) (cf G i r l)) l) := fun l hl => stW_lt hl
    simp (disch := first | assumption | omega) only [x_m_would_0, x_m_would_1, x_m_would_2, x_m_would_5, x_m_would_8, x_m_would_9, x_m_would_10, x_m_would_11, x_m_would_12, x_m_would_15, x_m_would_18, x_m_would_19, x_m_would_20, x_m_would_21, x_m_would_22, x_m_would_25, x_m_would_28, x_m_would_31, x_m_would_32, x_m_would_33, x_m_would_36, x_m_would_37, x_m_would_38, x_m_would_39, x_m_would_42, x_m_would_43, x_m_would_44, x_m_would_47, x_m_would_50, x_m_would_51, x_m_would_52, x_m_would_55, x_m_would_58, x_m_would_59, x_m_would_60, x_m_would_63, sp_m_mean hw hv, sp_m_all (WN_66 jv _) hv, XK_s, fl_fl, upi_upi]
    have h1 : upi iv 118 5 (nI 1) = fl (upi iv 118 5 (nI 0)) true := by rw [fl_t, upi_upi]
    rw [h1, fl_fl, Bool.true_or]
    rw [sp_m_part (a := 0) (b := 1) (bad := true) (fl_5 (upi_at _ _ _ _)) (fun h => absurd h (by decide)) (fun h => absurd h (by decide)) (fun h => absurd h (by decide)) (fun h => absurd h (by decide)) hp]
    simp only [XK_s, x_m_would_0, x_m_would_1, x_m_would_2, x_m_would_5, x_m_would_8, x_m_would_9, x_m_would_10, x_m_would_11, x_m_would_12, x_m_would_15, x_m_would_18, x_m_would_19, x_m_would_20, x_m_would_21, x_m_would_22, x_m_would_25, x_m_would_28, x_m_would_31, x_m_would_32, x_m_would_33, x_m_would_36, x_m_would_37, x_m_would_38, x_m_would_39, x_m_would_42, x_m_would_43, x_m_would_44, x_m_would_47, x_m_would_50, x_m_would_51, x_m_would_52, x_m_would_55, x_m_would_58, x_m_would_59, x_m_would_60, x_m_would_63]
    have h2 : vWould G (WN G) i r p = -9223372036854775808 := by unfold vWould; rw [if_pos hao]
    rw [h2] at hQ
    exact hQ _ _ FR_goes
  · have hao' : ao (cf G i r) (WN G) 9 = false := by simpa using hao
    have hv := WB_lt G i r hao'
    have hw : ∀ l, l < 9 → stW (stW jv (WN G) 9) (dv (ml G i r (WN G))) 9 122 l = lN (dv (ml G i r (WN G)) l) := fun l hl => stW_lt hl
    have g1 := gst_lt c1 (dv (ml G i r (WN G))) 9
    have g2 := gst_lt cl (dv (ml G i r (WN G))) 9
    rw [if_neg hao]
    simp (disch := first | assumption | omega) only [x_m_would_0, x_m_would_1, x_m_would_2, x_m_would_5, x_m_would_8, x_m_would_9, x_m_would_10, x_m_would_11, x_m_would_12, x_m_would_15, x_m_would_18, x_m_would_19, x_m_would_20, x_m_would_21, x_m_would_22, x_m_would_25, x_m_would_28, x_m_would_31, x_m_would_32, x_m_would_33, x_m_would_36, x_m_would_37, x_m_would_38, x_m_would_39, x_m_would_42, x_m_would_43, x_m_would_44, x_m_would_47, x_m_would_50, x_m_would_51, x_m_would_52, x_m_would_55, x_m_would_58, x_m_would_59, x_m_would_60, x_m_would_63, sp_m_mean hw hv, sp_m_all (WN_66 jv _) hv, XK_s, fl_fl]
    rw [sp_m_part (a := (gst cl (dv (ml G i r (WN G))) 9).1) (b := (gst c1 (dv (ml G i r (WN G))) 9).1) (fl_5 (upi_at _ _ _ _)) (fun h => by rw [upj_nk (by decide), upj_at]) (fun h => by rw [upj_at]) (fun _ => g2) (fun h => ⟨A_pos (dv_nz (ml_nz (WN_nz hn))) (orf h).2, g1⟩) hp]
    simp only [XK_s, x_m_would_0, x_m_would_1, x_m_would_2, x_m_would_5, x_m_would_8, x_m_would_9, x_m_would_10, x_m_would_11, x_m_would_12, x_m_would_15, x_m_would_18, x_m_would_19, x_m_would_20, x_m_would_21, x_m_would_22, x_m_would_25, x_m_would_28, x_m_would_31, x_m_would_32, x_m_would_33, x_m_would_36, x_m_would_37, x_m_would_38, x_m_would_39, x_m_would_42, x_m_would_43, x_m_would_44, x_m_would_47, x_m_would_50, x_m_would_51, x_m_would_52, x_m_would_55, x_m_would_58, x_m_would_59, x_m_would_60, x_m_would_63]
    have h2 : vWould G (WN G) i r p = vMean (dv (ml G i r (WN G))) p := by unfold vWould; rw [if_neg hao]
    rw [h2] at hQ
    exact hQ _ _ FR_goes
end REF8
