section BITS
variable {d : Nat} {iv : mI} {jv : mJ} {Q : Option Value → mH → Prop} {G : Nat → Nat} {f : Nat → Nat}
theorem nI_and (a b : Nat) : nI a &&& nI b = nI (a &&& b) := by
  apply Int32.toBitVec_inj.mp
  show BitVec.ofNat 32 a &&& BitVec.ofNat 32 b = BitVec.ofNat 32 (a &&& b)
  apply BitVec.eq_of_toNat_eq
  rw [BitVec.toNat_and, BitVec.toNat_ofNat, BitVec.toNat_ofNat, BitVec.toNat_ofNat, Nat.and_mod_two_pow]
theorem nI_or (a b : Nat) : nI a ||| nI b = nI (a ||| b) := by
  apply Int32.toBitVec_inj.mp
  show BitVec.ofNat 32 a ||| BitVec.ofNat 32 b = BitVec.ofNat 32 (a ||| b)
  apply BitVec.eq_of_toNat_eq
  rw [BitVec.toNat_or, BitVec.toNat_ofNat, BitVec.toNat_ofNat, BitVec.toNat_ofNat, Nat.or_mod_two_pow]
def dif (a s : Nat) : Nat := a ^^^ (a &&& s)
theorem dif_bit (a s k : Nat) : (dif a s).testBit k = (a.testBit k && !s.testBit k) := by
  unfold dif
  rw [Nat.testBit_xor, Nat.testBit_and]
  cases a.testBit k <;> cases s.testBit k <;> rfl
theorem dif_lt {a s : Nat} (h : a < 256) : dif a s < 256 :=
  Nat.xor_lt_two_pow (n := 8) h (Nat.lt_of_le_of_lt Nat.and_le_left h)
theorem nI_dif (a s : Nat) : nI a &&& (nI s ^^^ (-1)) = nI (dif a s) := by
  apply Int32.toBitVec_inj.mp
  show BitVec.ofNat 32 a &&& (BitVec.ofNat 32 s ^^^ (-1#32)) = BitVec.ofNat 32 (dif a s)
  apply BitVec.eq_of_getLsbD_eq
  intro i hi
  rw [BitVec.neg_one_eq_allOnes]
  simp only [BitVec.getLsbD_and, BitVec.getLsbD_xor, BitVec.getLsbD_ofNat, BitVec.getLsbD_allOnes, dif_bit, hi, decide_true, Bool.true_and]
  cases a.testBit i <;> cases s.testBit i <;> rfl
theorem shl_fin : ∀ k, k ≤ 8 → nI 1 <<< (nI k &&& 31) = nI (2 ^ k) := by decide +kernel
theorem qn0 {a : Nat} (h : a < 2147483648) : (nI a = nI 0) = (a = 0) := q_eq h (by decide)
/-- may the quota of an AREA be so -/
def qA (G : Nat → Nat) (s a : Nat) : Prop := G (18 + a) ≤ inA G s a (G 29) ∧ inA G s a (G 29) ≤ G (21 + a)
def shB (G : Nat → Nat) (s : Nat) : Prop := (cntB s 8 = G 30 ∧ dif (askB G (G 36)) s = 0 ∧ dif s (askB G (G 36)) &&& G 35 = 0) ∧ qA G s 0 ∧ qA G s 1 ∧ qA G s 2
theorem cntB_le (s : Nat) : ∀ n, cntB s n ≤ n
  | 0 => Nat.le_refl _
  | n + 1 => by
    have := cntB_le s n
    unfold cntB
    split <;> omega
theorem sp_m_isShadow {s : Nat} (hG : ∀ k, k < 101 → jv 119 k = lN (G k)) (hB : IB G) (hs : s < 256) [Decidable (shB G s)] : XM (d + 3) Ym_isShadow [.ref 118, .int (nI s), .int (nI (askB G (G 36)))] iv jv Q = Q (some (.int (b01 (shB G s)))) (mk iv jv) := by
  obtain ⟨b1, b2, b3, b4, b5, b6, b7, b8, b9, b10, b11, b12, b13⟩ := id hB
  have h1 := cntB_le s 8
  have h2 := askB_lt (fun k hk => (b5 k hk).1) _ b2
  have h3 := dif_lt (s := s) h2
  have h4 := dif_lt (s := askB G (G 36)) hs
  have h5 : dif s (askB G (G 36)) &&& G 35 ≤ dif s (askB G (G 36)) := Nat.and_le_left
  have g30 := hG 30 (by decide)
  have g35 := hG 35 (by decide)
  have k0 := b7 0 (by decide)
  have k1 := b7 1 (by decide)
  have k2 := b7 2 (by decide)
  have i0 := inA_le G s 0 (G 29)
  have i1 := inA_le G s 1 (G 29)
  have i2 := inA_le G s 2 (G 29)
  simp only [Nat.reduceAdd] at k0 k1 k2
  simp (disch := first | assumption | omega) only [e_m_isShadow, x_m_isShadow_0, x_m_isShadow_1, x_m_isShadow_4, x_m_isShadow_5, x_m_isShadow_6, x_m_isShadow_9, x_m_isShadow_11, x_m_isShadow_12, x_m_isShadow_13, x_m_isShadow_16, x_m_isShadow_17, x_m_isShadow_18, x_m_isShadow_19, x_m_isShadow_20, x_m_isShadow_21, x_m_isShadow_24, x_m_isShadow_25, x_m_isShadow_26, x_m_isShadow_27, x_m_isShadow_28, x_m_isShadow_29, x_m_isShadow_30, x_m_isShadow_32, x_m_isShadow_35, x_m_isShadow_36, x_m_isShadow_39, x_m_isShadow_40, x_m_isShadow_41, x_m_isShadow_42, x_m_isShadow_44, x_m_isShadow_45, x_m_isShadow_48, x_m_isShadow_49, x_m_isShadow_50, x_m_isShadow_51, x_m_isShadow_54, x_m_isShadow_55, x_m_isShadow_56, x_m_isShadow_59, x_m_isShadow_61, x_m_isShadow_62, x_m_isShadow_63, x_m_isShadow_64, x_m_isShadow_65, x_m_isShadow_68, x_m_isShadow_70, x_m_isShadow_71, x_m_isShadow_72, x_m_isShadow_73, x_m_isShadow_76, x_m_isShadow_79, x_m_isShadow_80, x_m_isShadow_81, x_m_isShadow_84, x_m_isShadow_87, x_m_isShadow_88, x_m_isShadow_43, sp_m_bits, XK_s, q_i2l, g30, g35, c_eq, q_leq, nI_dif, nI_and, qn0, sp_m_get, q_l2i, q_le, q_add, q_in, q_tn, true_and, Nat.reduceAdd, Nat.reduceLeDiff, if_true, if_false, sp_m_inArea hG hB, hG, sp_isInN, b01_eq0, z01, z11, or_true]
  unfold shB qA
  simp only [Nat.reduceAdd]
  by_cases p1 : cntB s 8 = G 30 <;> by_cases p2 : dif (askB G (G 36)) s = 0 <;> by_cases p3 : dif s (askB G (G 36)) &&& G 35 = 0 <;> by_cases p4 : G 18 ≤ inA G s 0 (G 29) ∧ inA G s 0 (G 29) ≤ G 21 <;> by_cases p5 : G 19 ≤ inA G s 1 (G 29) ∧ inA G s 1 (G 29) ≤ G 22 <;> by_cases p6 : G 20 ≤ inA G s 2 (G 29) ∧ inA G s 2 (G 29) ≤ G 23 <;> simp [p1, p2, p3, p4, p5, p6, b01]
end BITS
