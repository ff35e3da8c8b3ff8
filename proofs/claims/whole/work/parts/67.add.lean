section ADD
variable {d : Nat} {iv : mI} {jv : mJ} {Q : Option Value → mH → Prop} {G : Nat → Nat} {B v : Nat}
theorem sp_o_addItem_bad {x y z w : Int32} (h : ¬ isS x y z w) : XM (d + 4) Yo_addItem [.ref B, .int x, .int y, .int z, .int w] iv jv Q = Q (some (.int (-2))) (mk iv jv) := by
  unfold isS at h
  by_cases p1 : ((0 : Nat) : Int) ≤ x.toInt ∧ x.toInt ≤ ((5 : Nat) : Int) <;> by_cases p2 : ((0 : Nat) : Int) ≤ y.toInt ∧ y.toInt ≤ ((2 : Nat) : Int) <;> by_cases p3 : ((0 : Nat) : Int) ≤ z.toInt ∧ z.toInt ≤ ((8 : Nat) : Int) <;> by_cases p4 : ((1 : Nat) : Int) ≤ w.toInt ∧ w.toInt ≤ ((3 : Nat) : Int) <;>
  first
  | (exfalso; omega)
  | (simp (disch := first | assumption | omega) only [e_o_addItem, x_o_addItem_0, x_o_addItem_1, x_o_addItem_4, x_o_addItem_7, x_o_addItem_8, x_o_addItem_11, x_o_addItem_14, x_o_addItem_15, x_o_addItem_18, x_o_addItem_21, x_o_addItem_23, x_o_addItem_24, x_o_addItem_25, x_o_addItem_28, x_o_addItem_31, x_o_addItem_33, x_o_addItem_34, x_o_addItem_35, x_o_addItem_38, x_o_addItem_40, x_o_addItem_43, x_o_addItem_45, x_o_addItem_46, x_o_addItem_47, x_o_addItem_50, x_o_addItem_51, x_o_addItem_54, x_o_addItem_55, x_o_addItem_56, x_o_addItem_57, x_o_addItem_58, x_o_addItem_60, x_o_addItem_63, x_o_addItem_64, x_o_addItem_67, x_o_addItem_68, x_o_addItem_71, x_o_addItem_72, x_o_addItem_73, x_o_addItem_76, x_o_addItem_79, x_o_addItem_80, x_o_addItem_83, x_o_addItem_84, x_o_addItem_85, x_o_addItem_86, x_o_addItem_87, x_o_addItem_88, x_o_addItem_91, x_o_addItem_92, x_o_addItem_93, x_o_addItem_94, x_o_addItem_95, x_o_addItem_96, x_o_addItem_99, x_o_addItem_100, x_o_addItem_101, x_o_addItem_102, x_o_addItem_105, sp_t_isKind, sp_t_isArea, sp_t_isLevel, sp_within, XK_s, b01_eq0, p1, p2, p3, p4, not_false_eq_true, not_true_eq_false, if_true, if_false, and_self])
theorem sI_of {k a h s : Nat} (hk : k ≤ 5) (ha : a ≤ 2) (hh : h ≤ 8) (hs1 : 1 ≤ s) (hs : s ≤ 3) : (((0 : Nat) : Int) ≤ (nI k).toInt ∧ (nI k).toInt ≤ ((5 : Nat) : Int)) ∧ (((0 : Nat) : Int) ≤ (nI a).toInt ∧ (nI a).toInt ≤ ((2 : Nat) : Int)) ∧ (((0 : Nat) : Int) ≤ (nI h).toInt ∧ (nI h).toInt ≤ ((8 : Nat) : Int)) ∧ (((1 : Nat) : Int) ≤ (nI s).toInt ∧ (nI s).toInt ≤ ((3 : Nat) : Int)) := by
  rw [nI_toI (by omega), nI_toI (by omega), nI_toI (by omega), nI_toI (by omega)]
  omega
theorem sp_o_addItem_full {k a h s : Nat} (hk : k ≤ 5) (ha : a ≤ 2) (hh : h ≤ 8) (hs1 : 1 ≤ s) (hs : s ≤ 3) (hb : isB B) (hC : CF B G iv) (h8 : G 29 = 8) : XM (d + 4) Yo_addItem [.ref B, .int (nI k), .int (nI a), .int (nI h), .int (nI s)] iv jv Q = Q (some (.int (-4))) (mk iv jv) := by
  obtain ⟨c4, c5, c6, c7, c9, c11, c14⟩ := hC
  obtain ⟨s0, s1, s2, s3, s4, s5, s6, s7, s8, s9, s10, s11⟩ := sB hb
  obtain ⟨p1, p2, p3, p4⟩ := sI_of hk ha hh hs1 hs
  rw [h8] at c9
  have e8 : ¬ (8 < 8) := by decide
  simp (disch := first | assumption | omega) only [e_o_addItem, x_o_addItem_0, x_o_addItem_1, x_o_addItem_4, x_o_addItem_7, x_o_addItem_8, x_o_addItem_11, x_o_addItem_14, x_o_addItem_15, x_o_addItem_18, x_o_addItem_21, x_o_addItem_23, x_o_addItem_24, x_o_addItem_25, x_o_addItem_28, x_o_addItem_31, x_o_addItem_33, x_o_addItem_34, x_o_addItem_35, x_o_addItem_38, x_o_addItem_40, x_o_addItem_43, x_o_addItem_45, x_o_addItem_46, x_o_addItem_47, x_o_addItem_50, x_o_addItem_51, x_o_addItem_54, x_o_addItem_55, x_o_addItem_56, x_o_addItem_57, x_o_addItem_58, x_o_addItem_60, x_o_addItem_63, x_o_addItem_64, x_o_addItem_67, x_o_addItem_68, x_o_addItem_71, x_o_addItem_72, x_o_addItem_73, x_o_addItem_76, x_o_addItem_79, x_o_addItem_80, x_o_addItem_83, x_o_addItem_84, x_o_addItem_85, x_o_addItem_86, x_o_addItem_87, x_o_addItem_88, x_o_addItem_91, x_o_addItem_92, x_o_addItem_93, x_o_addItem_94, x_o_addItem_95, x_o_addItem_96, x_o_addItem_99, x_o_addItem_100, x_o_addItem_101, x_o_addItem_102, x_o_addItem_105, sp_t_isKind, sp_t_isArea, sp_t_isLevel, sp_within, XK_s, b01_eq0, eq_true p1, eq_true p2, eq_true p3, eq_true p4, not_true_eq_false, if_true, if_false, s0, true_and, c9, q_lt, e8]
theorem it_r4 {k a h s : Nat} {j : Nat} (hj : j ≠ G 29) (l : Nat) (hj8 : j < 8) : rgt (itG G k a h s) j l = rgt G j l :=
  rgt_congr (fun k hk => itG_ne (by omega) (by omega) (by omega)) l
theorem wt_it {k a h s : Nat} (hB : IB G) (hD : DS G) (h29 : G 29 < 8) : ∀ m, m ≤ G 36 → ∀ l, l < 9 → wt (itG G k a h s) m l = wt G m l := by
  intro m hm
  have b1 := hB.1
  have b36 := hB.2.1
  refine wt_congr (fun l hl => ?_) m (fun j hj => ⟨?_, ?_, fun l => ?_⟩)
  · rw [wt_0, wt_0, itG_ne (by omega) (by omega) (by omega), itG_ne (by omega) (by omega) (by omega), itG_ne (by omega) (by omega) (by omega)]
  · exact itG_ne (by omega) (by omega) (by omega)
  · exact itG_ne (by omega) (by omega) (by omega)
  · have := (hD j (by omega)).1
    exact it_r4 (by omega) l (by omega)
theorem aoR_no {i : Nat} : ∀ n k, (∀ j, k ≤ j → j < k + n → G (85 + 2 * j) ≠ i) → aoR G i n k = -1
  | 0, _, _ => rfl
  | n + 1, k, h => by
    rw [aoR_s, if_neg (h k (Nat.le_refl _) (by omega))]
    exact aoR_no n (k + 1) (fun j h1 h2 => h j (by omega) (by omega))
theorem it_bit {k a h s : Nat} {j : Nat} (hj : j < G 29) : (itG G k a h s 35).testBit j = (G 35).testBit j := by
  rw [itG_35]
  split
  · have e' : ¬ G 29 = j := by omega
    rw [Nat.testBit_or, Nat.testBit_two_pow]; simp [e']
  · rfl
theorem it_bitN {k a h s : Nat} (h35 : G 34 ≠ 1 → G 35 = 0) : (itG G k a h s 35).testBit (G 29) = decide (G 34 = 1) := by
  rw [itG_35]
  by_cases hon : G 34 = 1
  · rw [if_pos hon, Nat.testBit_or, Nat.testBit_two_pow]; simp [hon]
  · rw [if_neg hon, h35 hon]; simp [hon]
theorem CR_it {k a h s : Nat} {iv' : mI} (hb : isB B) (hC : CR B G iv jv) (hB : IB G) (hD : DS G) (h29 : G 29 < 8) (ha : a < 3) (h35 : G 34 ≠ 1 → G 35 = 0)
    (u : ∀ q k, ¬ (B + 12 + 3 * G 29 ≤ q ∧ q ≤ B + 12 + 3 * G 29 + 2) → ¬ (q = B ∧ k = 9) → ¬ (q = B + 6 ∧ k = a) → iv' q k = iv q k) (u9 : iv' B 9 = nI (G 29 + 1)) (u6 : iv' (B + 6) a = nI (arS G a (G 29) ||| 2 ^ G 29)) (hI : IT (B + 12 + 3 * G 29) k a h s 10 0 (nI (G 34)) (-1) iv') : CR B (itG G k a h s) iv' jv := by
  obtain ⟨⟨c4, c5, c6, c7, c9, c11, c14⟩, cp, ca, cb, cw, ck, cm, ci, ch⟩ := hC
  have b1 := hB.1
  have b36 := hB.2.1
  have b34 : G 34 ≤ 1 := hB.2.2.2.2.2.2.2.2.2.2.2.2
  have e : ∀ j, (j < 37 ∨ 85 ≤ j) → j ≠ 29 → j ≠ 35 → itG G k a h s j = G j := fun j h1 h2 h3 => itG_ne h2 h3 (by omega)
  refine ⟨⟨?_, ?_, ?_, ?_, ?_, ?_, ?_⟩, fun l hl => ?_, fun a' ha' => ⟨?_, ?_, ?_⟩, fun r' hr' => ?_, ?_, fun k' hk' => ?_, fun hon k' hk' => ?_, fun j hj => ?_, fun j hj => ?_⟩
  · rw [u _ _ (by omega) (by omega) (by omega), e _ (by omega) (by omega) (by omega)]; exact c4
  · rw [u _ _ (by omega) (by omega) (by omega), e _ (by omega) (by omega) (by omega)]; exact c5
  · rw [u _ _ (by omega) (by omega) (by omega), e _ (by omega) (by omega) (by omega)]; exact c6
  · rw [u _ _ (by omega) (by omega) (by omega), e _ (by omega) (by omega) (by omega)]; exact c7
  · rw [itG_29]; exact u9
  · rw [u _ _ (by omega) (by omega) (by omega), e _ (by omega) (by omega) (by omega)]; exact c11
  · rw [u _ _ (by omega) (by omega) (by omega), e _ (by omega) (by omega) (by omega)]; exact c14
  · rw [u _ _ (by omega) (by omega) (by omega), e _ (by omega) (by omega) (by omega)]; exact cp l hl
  · rw [u _ _ (by omega) (by omega) (by omega), e _ (by omega) (by omega) (by omega)]; exact (ca a' ha').1
  · rw [u _ _ (by omega) (by omega) (by omega), e _ (by omega) (by omega) (by omega)]; exact (ca a' ha').2.1
  · have ea := (itG_at G k a h s).2.1
    rw [itG_29, arS_s, ea, arS_congr a' (G 29) (fun j hj => itG_ne (by omega) (by omega) (by omega))]
    by_cases ea' : a = a'
    · subst ea'; rw [if_pos rfl]; exact u6
    · rw [if_neg ea', u _ _ (by omega) (by omega) (by omega)]; exact (ca a' ha').2.2
  · rw [u _ _ (by omega) (by omega) (by omega), e _ (by omega) (by omega) (by omega)]; exact cb r' hr'
  · refine WR_congr (fun l hl => ?_) cw
    show _ = wt (itG G k a h s) (itG G k a h s 36) l
    rw [e 36 (by omega) (by omega) (by omega), wt_it hB hD h29 _ (Nat.le_refl _) l hl]; rfl
  · rw [e 36 (by omega) (by omega) (by omega)] at hk'
    rw [u _ _ (by omega) (by omega) (by omega), e _ (by omega) (by omega) (by omega)]; exact ck k' hk'
  · rw [e 36 (by omega) (by omega) (by omega)] at hk'
    rw [e 34 (by omega) (by omega) (by omega)] at hon
    rw [u _ _ (by omega) (by omega) (by omega), mdF_congr 8 (fun l hl => wt_it hB hD h29 k' hk' l (by omega))]; exact cm hon k' hk'
  · rw [itG_29] at hj
    by_cases ej : j = G 29
    · subst ej
      obtain ⟨q0, q1, q2, q3, q4, q5⟩ := itG_at G k a h s
      have a0 : aoR (itG G k a h s) (G 29) (G 36) 0 = -1 := aoR_no _ _ (fun j _ hj => by
        have := (hD j (by omega)).1
        rw [e _ (by omega) (by omega) (by omega)]; omega)
      have hbb : b01 ((itG G k a h s 35).testBit (G 29) = true) = nI (G 34) := by
        rw [b01_congr (e := G 34 = 1) (by rw [it_bitN h35]; simp)]
        by_cases hon : G 34 = 1
        · rw [b01_t hon, hon]
        · rw [b01_f hon, show G 34 = 0 from by omega]
      unfold CI
      rw [q0, q1, q2, q3, q4, q5, e 36 (by omega) (by omega) (by omega), a0, hbb]
      exact hI
    · refine CI_congr (ci j (by omega)) (fun k' hk' => itG_ne (by omega) (by omega) (by omega)) (it_bit (by omega)) ?_ (fun k hk => u _ _ (by omega) (by omega) (by omega)) (fun k hk => u _ _ (by omega) (by omega) (by omega)) (fun k hk => u _ _ (by omega) (by omega) (by omega))
      rw [e 36 (by omega) (by omega) (by omega)]
      exact aoR_congr j _ _ (fun j' _ _ => ⟨e _ (by omega) (by omega) (by omega), e _ (by omega) (by omega) (by omega)⟩)
  · by_cases ej : j = G 29
    · subst ej
      rw [hI.1.2.2.2.2.2.2.1]
      have : G 34 = 0 ∨ G 34 = 1 := by omega
      rcases this with h | h <;> rw [h]
      · exact Or.inl rfl
      · exact Or.inr rfl
    · rw [u _ _ (by omega) (by omega) (by omega)]; exact ch j hj
theorem sp_o_addItem {k a h s : Nat} (hk : k ≤ 5) (ha : a ≤ 2) (hh : h ≤ 8) (hs1 : 1 ≤ s) (hs : s ≤ 3) (hb : isB B) (hC : CR B G iv jv) (hB : IB G) (hD : DS G) (h8 : G 29 < 8) (h35 : G 34 ≠ 1 → G 35 = 0) (hQ : ∀ iv', FB B iv jv iv' jv → CR B (itG G k a h s) iv' jv → Q (some (.int (nI (G 29)))) (mk iv' jv)) : XM (d + 4) Yo_addItem [.ref B, .int (nI k), .int (nI a), .int (nI h), .int (nI s)] iv jv Q := by
  obtain ⟨⟨c4, c5, c6, c7, c9, c11, c14⟩, cp, ca, cb, cw, ck, cm, ci, ch⟩ := id hC
  obtain ⟨s0, s1, s2, s3, s4, s5, s6, s7, s8, s9, s10, s11⟩ := sB hb
  obtain ⟨p1, p2, p3, p4⟩ := sI_of hk ha hh hs1 hs
  obtain ⟨t0, t1, t2⟩ := sI hb h8
  have hlb := lt_B hb
  have e18 : ((18 : Nat) = 18 ∨ (18 : Nat) = 19) = True := by simp
  have b34 : G 34 ≤ 1 := hB.2.2.2.2.2.2.2.2.2.2.2.2
  have h01 : (nI (G 34) = nI 0 ∨ nI (G 34) = nI 1) = True := by
    apply eq_true
    have : G 34 = 0 ∨ G 34 = 1 := by omega
    rcases this with h | h <;> rw [h]
    · exact Or.inl rfl
    · exact Or.inr rfl
  have n6 := ne1001 (k := 6) hb (by decide)
  have c6a := (ca a (by omega)).2.2
  have al := arS_lt G a (G 29)
  have ap := pow_le (k := G 29) (by omega)
  have hor := bit_or (arS G a (G 29)) (by omega) (G 29) h8
  simp (disch := first | assumption | omega) only [e_o_addItem, x_o_addItem_0, x_o_addItem_1, x_o_addItem_4, x_o_addItem_7, x_o_addItem_8, x_o_addItem_11, x_o_addItem_14, x_o_addItem_15, x_o_addItem_18, x_o_addItem_21, x_o_addItem_23, x_o_addItem_24, x_o_addItem_25, x_o_addItem_28, x_o_addItem_31, x_o_addItem_33, x_o_addItem_34, x_o_addItem_35, x_o_addItem_38, x_o_addItem_40, x_o_addItem_43, x_o_addItem_45, x_o_addItem_46, x_o_addItem_47, x_o_addItem_50, x_o_addItem_51, x_o_addItem_54, x_o_addItem_55, x_o_addItem_56, x_o_addItem_57, x_o_addItem_58, x_o_addItem_60, x_o_addItem_63, x_o_addItem_64, x_o_addItem_67, x_o_addItem_68, x_o_addItem_71, x_o_addItem_72, x_o_addItem_73, x_o_addItem_76, x_o_addItem_79, x_o_addItem_80, x_o_addItem_83, x_o_addItem_84, x_o_addItem_85, x_o_addItem_86, x_o_addItem_87, x_o_addItem_88, x_o_addItem_91, x_o_addItem_92, x_o_addItem_93, x_o_addItem_94, x_o_addItem_95, x_o_addItem_96, x_o_addItem_99, x_o_addItem_100, x_o_addItem_101, x_o_addItem_102, x_o_addItem_105, sp_t_isKind, sp_t_isArea, sp_t_isLevel, sp_within, XK_s, b01_eq0, eq_true p1, eq_true p2, eq_true p3, eq_true p4, not_true_eq_false, if_true, if_false, s0, s5, e18, true_and, true_or, c9, q_lt, eq_true h8, q_in, q_tn, rI hb, t0]
  refine sp_i_become t0 t1 t2 (by omega) (by omega) (by omega) (by omega) (by omega) (fun iv1 hF hI => ?_)
  have v9 : iv1 B 9 = nI (G 29) := (hF _ _ (by omega) (by omega) (by omega)).trans c9
  have v11 : iv1 B 11 = nI (G 34) := (hF _ _ (by omega) (by omega) (by omega)).trans c11
  have v6a : iv1 (B + 6) a = nI (arS G a (G 29)) := (hF _ _ (by omega) (by omega) (by omega)).trans c6a
  simp (disch := first | assumption | omega) only [XK_n, x_o_addItem_0, x_o_addItem_1, x_o_addItem_4, x_o_addItem_7, x_o_addItem_8, x_o_addItem_11, x_o_addItem_14, x_o_addItem_15, x_o_addItem_18, x_o_addItem_21, x_o_addItem_23, x_o_addItem_24, x_o_addItem_25, x_o_addItem_28, x_o_addItem_31, x_o_addItem_33, x_o_addItem_34, x_o_addItem_35, x_o_addItem_38, x_o_addItem_40, x_o_addItem_43, x_o_addItem_45, x_o_addItem_46, x_o_addItem_47, x_o_addItem_50, x_o_addItem_51, x_o_addItem_54, x_o_addItem_55, x_o_addItem_56, x_o_addItem_57, x_o_addItem_58, x_o_addItem_60, x_o_addItem_63, x_o_addItem_64, x_o_addItem_67, x_o_addItem_68, x_o_addItem_71, x_o_addItem_72, x_o_addItem_73, x_o_addItem_76, x_o_addItem_79, x_o_addItem_80, x_o_addItem_83, x_o_addItem_84, x_o_addItem_85, x_o_addItem_86, x_o_addItem_87, x_o_addItem_88, x_o_addItem_91, x_o_addItem_92, x_o_addItem_93, x_o_addItem_94, x_o_addItem_95, x_o_addItem_96, x_o_addItem_99, x_o_addItem_100, x_o_addItem_101, x_o_addItem_102, x_o_addItem_105, s0, s5, s6, n6, if_false, e18, true_and, true_or, v9, q_in, q_tn, rI hb, t0, v11, h01, upi_ne, v6a, hor, q_add]
  refine hQ _ ⟨fun q k hq => ?_, fun _ _ _ => rfl⟩ (CR_it hb hC hB hD h8 (by omega) h35 (fun q k e1 e2 e3 => ?_) ?_ ?_ ⟨⟨?_, ?_, ?_, ?_, ?_, ?_, ?_, ?_⟩, fun l hl => ?_, fun l hl => ?_⟩)
  · rw [upi_ne (by omega), upi_ne (by omega), upi_ne (by omega)]; exact hF _ _ (by omega) (by omega) (by omega)
  · rw [upi_ne (by omega), upi_ne (by omega), upi_ne (by omega)]; exact hF _ _ (by omega) (by omega) (by omega)
  · exact upi_at _ _ _ _
  · rw [upi_ne (by omega), upi_at]
  all_goals first
    | (rw [upi_ne (by omega), upi_ne (by omega), upi_at])
    | (rw [upi_ne (by omega), upi_ne (by omega), upi_ne (by omega)])
  · exact hI.1.1
  · exact hI.1.2.1
  · exact hI.1.2.2.1
  · exact hI.1.2.2.2.1
  · exact hI.1.2.2.2.2.1
  · exact hI.1.2.2.2.2.2.1
  · exact hI.1.2.2.2.2.2.2.2
  · exact hI.2.1 l hl
  · exact hI.2.2 l hl
/-- where only what is told to a TEST ahead has changed -/
theorem CR_same {G' : Nat → Nat} {iv' : mI} (hb : isB B) (hC : CR B G iv jv) (hB : IB G) (hl : ∀ l, l < 18 → G' l = G l) (h29 : G' 29 = G 29) (h33 : ∀ j, 33 ≤ j → j < 37 → G' j = G j) (hit : ∀ i k, i < 8 → k < 6 → k ≠ 4 → G' (37 + 6 * i + k) = G (37 + 6 * i + k)) (h85 : ∀ j, 85 ≤ j → G' j = G j)
    (u : ∀ q k, ¬ (q = B ∧ (k = 4 ∨ k = 5 ∨ k = 6)) → q ≠ B + 2 → q ≠ B + 3 → q ≠ B + 4 → ¬ (k = 4 ∧ B + 12 ≤ q ∧ q < B + 36 ∧ (q - B) % 3 = 0) → iv' q k = iv q k)
    (v4 : iv' B 4 = nI (G' 32)) (v5 : iv' B 5 = nI (G' 30)) (v6 : iv' B 6 = nI (G' 31)) (v2 : ∀ a, a < 3 → iv' (B + 2) a = nI (G' (18 + a)) ∧ iv' (B + 3) a = nI (G' (21 + a))) (vb : ∀ r, r < 5 → iv' (B + 4) r = nI (G' (24 + r))) (ve : ∀ i, i < G 29 → iv' (B + 12 + 3 * i) 4 = nI (G' (37 + 6 * i + 4))) : CR B G' iv' jv := by
  obtain ⟨⟨c4, c5, c6, c7, c9, c11, c14⟩, cp, ca, cb, cw, ck, cm, ci, ch⟩ := hC
  have b1 := hB.1
  have b36 := hB.2.1
  have h5 : ∀ k, k < 8 → G (85 + 2 * k) < 8 := fun k hk => (hB.2.2.2.2.1 k hk).1
  have ew : ∀ k, k ≤ G 36 → ∀ l, l < 9 → wt G' k l = wt G k l := by
    intro k hk
    refine wt_congr (fun l hl' => ?_) k (fun j hj => ⟨h85 _ (by omega), h85 _ (by omega), fun l => rgt_congr (fun k hk => hit _ k (h5 j (by omega)) (by omega) (by omega)) l⟩)
    rw [wt_0, wt_0, h33 34 (by omega) (by omega), hl (9 + l) (by omega), hl l (by omega)]
  refine ⟨⟨v4, v5, v6, ?_, ?_, ?_, ?_⟩, fun l hl' => ?_, fun a ha => ⟨(v2 a ha).1, (v2 a ha).2, ?_⟩, vb, ?_, fun k hk => ?_, fun hon k hk => ?_, fun j hj => ?_, fun j hj => ?_⟩
  · rw [u _ _ (by omega) (by omega) (by omega) (by omega) (by omega), h33 33 (by omega) (by omega)]; exact c7
  · rw [u _ _ (by omega) (by omega) (by omega) (by omega) (by omega), h29]; exact c9
  · rw [u _ _ (by omega) (by omega) (by omega) (by omega) (by omega), h33 34 (by omega) (by omega)]; exact c11
  · rw [u _ _ (by omega) (by omega) (by omega) (by omega) (by omega), h33 36 (by omega) (by omega)]; exact c14
  · rw [u _ _ (by omega) (by omega) (by omega) (by omega) (by omega), hl l (by omega)]; exact cp l hl'
  · rw [u _ _ (by omega) (by omega) (by omega) (by omega) (by omega), h29, arS_congr a (G 29) (fun j hj => hit j 1 (by omega) (by omega) (by omega))]; exact (ca a ha).2.2
  · refine WR_congr (fun l hl' => ?_) cw
    show _ = wt G' (G' 36) l
    rw [h33 36 (by omega) (by omega), ew _ (Nat.le_refl _) l hl']; rfl
  · rw [h33 36 (by omega) (by omega)] at hk
    rw [u _ _ (by omega) (by omega) (by omega) (by omega) (by omega), h85 _ (by omega)]; exact ck k hk
  · rw [h33 36 (by omega) (by omega)] at hk
    rw [h33 34 (by omega) (by omega)] at hon
    rw [u _ _ (by omega) (by omega) (by omega) (by omega) (by omega), mdF_congr 8 (fun l hl' => ew k hk l (by omega))]; exact cm hon k hk
  · rw [h29] at hj
    obtain ⟨⟨f0, f1, f2, f3, f4, f5, f6, f7⟩, fr, ft⟩ := ci j hj
    have e0 : G' (37 + 6 * j) = G (37 + 6 * j) := hit j 0 (by omega) (by decide) (by decide)
    unfold CI
    rw [e0, hit j 1 (by omega) (by decide) (by decide), hit j 2 (by omega) (by decide) (by decide), hit j 3 (by omega) (by decide) (by decide), hit j 5 (by omega) (by decide) (by decide), h33 35 (by omega) (by omega), h33 36 (by omega) (by omega), aoR_congr j _ _ (fun j' _ _ => ⟨h85 _ (by omega), h85 _ (by omega)⟩)]
    refine ⟨⟨?_, ?_, ?_, ?_, ve j hj, ?_, ?_, ?_⟩, fun l hl' => ?_, fun l hl' => ?_⟩
    · rw [u _ _ (by omega) (by omega) (by omega) (by omega) (by omega)]; exact f0
    · rw [u _ _ (by omega) (by omega) (by omega) (by omega) (by omega)]; exact f1
    · rw [u _ _ (by omega) (by omega) (by omega) (by omega) (by omega)]; exact f2
    · rw [u _ _ (by omega) (by omega) (by omega) (by omega) (by omega)]; exact f3
    · rw [u _ _ (by omega) (by omega) (by omega) (by omega) (by omega)]; exact f5
    · rw [u _ _ (by omega) (by omega) (by omega) (by omega) (by omega)]; exact f6
    · rw [u _ _ (by omega) (by omega) (by omega) (by omega) (by omega)]; exact f7
    · rw [u _ _ (by omega) (by omega) (by omega) (by omega) (by omega)]; exact fr l hl'
    · rw [u _ _ (by omega) (by omega) (by omega) (by omega) (by omega)]; exact ft l hl'
  · rw [u _ _ (by omega) (by omega) (by omega) (by omega) (by omega)]; exact ch j hj
end ADD
