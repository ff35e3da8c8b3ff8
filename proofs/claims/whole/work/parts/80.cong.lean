/-! HEAPS THAT AGREE WHERE THERE ARE PLACES: what holds of the one holds of the other -/
def hag (hp hp' : mH) : Prop := ∀ q k, k < (shp q).2 → hp q k = hp' q k
def hcl (Q : Option Value → mH → Prop) : Option Value → mH → Prop := fun v h' => ∃ h, hag h h' ∧ Q v h
theorem hag_r (hp : mH) : hag hp hp := fun _ _ _ => rfl
theorem hag_up {hp hp' : mH} (h : hag hp hp') {q k : Nat} {v : Value} : hag (mup hp q k v) (mup hp' q k v) := by
  intro a j hj
  unfold mup
  split
  · rfl
  · exact h a j hj
theorem hag_row {hp hp' : mH} (h : hag hp hp') {q : Nat} {f : Nat → Value} : hag (mrow hp q f) (mrow hp' q f) := by
  intro a j hj
  unfold mrow
  split
  · rfl
  · exact h a j hj
theorem hag_cpy {hp hp' : mH} (h : hag hp hp') {a a0 sp dp n : Nat} (h1 : sp + n ≤ (shp a0).2) : hag (mcpy hp a a0 sp dp n) (mcpy hp' a a0 sp dp n) := by
  intro q k hk
  unfold mcpy mrow
  split
  · rename_i e
    subst e
    dsimp only
    split
    · exact h _ _ (by omega)
    · exact h _ _ hk
  · exact h q k hk
theorem vp_lt {i : Int32} {N : Nat} (h : vp_in i N) : i.toNatClampNeg < N := by
  unfold vp_in at h
  exact Nat.lt_of_not_le (fun e => h (Or.inr e))
set_option maxRecDepth 100000 in
theorem mfk_all : ∀ e ∈ mFL, e.2.2.2.1 < mnf e.2.2.1 := by decide +kernel
theorem mfk_lt {o i c k : Nat} (h : mfk o i = some (c, k)) : k < mnf c := by
  unfold mfk mfl at h
  cases hf : mFL.find? (fun e => e.1 == o && e.2.1 == i) with
  | none => rw [hf] at h; cases h
  | some e =>
    rw [hf] at h
    have h2 := mfk_all e (List.mem_of_find?_eq_some hf)
    cases h
    exact h2
def mCong (C : mC) : Prop := ∀ j as hp hp' n Q, hag hp hp' → C j as hp n Q → C j as hp' n (hcl Q)
theorem mcall_cong {C : mC} (hC : mMono C) (hK : mCong C) {nm : Nat} {R R' : mR} (hR : ∀ pc ls st hp hp' n, hag hp hp' → R pc ls st hp n → R' pc ls st hp' n) {pc : Nat} {ls : List Value} {hp hp' : mH} (hg : hag hp hp') {n j : Nat} {as rest : List Value} (h : mcall C nm R pc ls hp n j as rest) : mcall C nm R' pc ls hp' n j as rest :=
  ⟨h.1, h.2.1, h.2.2.1, hC _ _ _ _ _ _ (fun _ _ q => by obtain ⟨h0, e, q⟩ := q; exact hR _ _ _ _ _ _ e q) (hK _ _ _ _ _ _ hg h.2.2.2)⟩
set_option maxHeartbeats 4000000 in
theorem Fi_cong {C : mC} (hC : mMono C) (hK : mCong C) {X : Option (Nat × (Nat → Int32))} {y nm : Nat} {R R' : mR} (hR : ∀ pc ls st hp hp' n, hag hp hp' → R pc ls st hp n → R' pc ls st hp' n) {Q : Option Value → mH → Prop} {pc : Nat} {ls st : List Value} {hp hp' : mH} (hg : hag hp hp') {n : Nat} (i : Instr) (h : Fi C X y nm R Q pc ls st hp n i) : Fi C X y nm R' (hcl Q) pc ls st hp' n i := by
  cases i
  all_goals first
    | exact h
    | exact hR _ _ _ _ _ _ hg h
    | exact getI_mono (fun _ q => hR _ _ _ _ _ _ hg q) h
    | exact getJ_mono (fun _ q => hR _ _ _ _ _ _ hg q) h
    | exact getA_mono (fun _ q => hR _ _ _ _ _ _ hg q) h
    | exact popI_mono (fun _ _ q => hR _ _ _ _ _ _ hg q) h
    | exact popJ_mono (fun _ _ q => hR _ _ _ _ _ _ hg q) h
    | exact popI_mono (fun _ _ q => ⟨q.1, hR _ _ _ _ _ _ hg q.2⟩) h
    | exact popJ_mono (fun _ _ q => ⟨q.1, hR _ _ _ _ _ _ hg q.2⟩) h
    | exact popA_mono (fun _ _ q => ⟨q.1, hR _ _ _ _ _ _ hg q.2⟩) h
    | exact pop1_mono (fun _ _ q => hR _ _ _ _ _ _ hg q) h
    | exact pop1_mono (fun _ _ q => pop1_mono (fun _ _ q => hR _ _ _ _ _ _ hg q) q) h
    | exact jmp_mono (fun _ q => hR _ _ _ _ _ _ hg q) h
    | exact popI_mono (fun _ _ q => popI_mono (fun _ _ q => hR _ _ _ _ _ _ hg q) q) h
    | exact popJ_mono (fun _ _ q => popJ_mono (fun _ _ q => hR _ _ _ _ _ _ hg q) q) h
    | exact popI_mono (fun _ _ q => popJ_mono (fun _ _ q => hR _ _ _ _ _ _ hg q) q) h
    | exact popI_mono (fun _ _ q => popI_mono (fun _ _ q => ⟨q.1, hR _ _ _ _ _ _ hg q.2⟩) q) h
    | exact popJ_mono (fun _ _ q => popJ_mono (fun _ _ q => ⟨q.1, hR _ _ _ _ _ _ hg q.2⟩) q) h
    | exact popI_mono (fun _ _ q => popI_mono (fun _ _ q => popA_mono (fun _ _ q => ⟨q.1, q.2.1, q.2.2.1, hR _ _ _ _ _ _ hg q.2.2.2⟩) q) q) h
    | exact popJ_mono (fun _ _ q => popI_mono (fun _ _ q => popA_mono (fun _ _ q => ⟨q.1, q.2.1, q.2.2.1, hR _ _ _ _ _ _ hg q.2.2.2⟩) q) q) h
    | exact popA_mono (fun _ _ q => popI_mono (fun _ _ q => popA_mono (fun _ _ q => ⟨q.1, q.2.1, q.2.2.1, q.2.2.2.1, hR _ _ _ _ _ _ hg q.2.2.2.2⟩) q) q) h
    | skip
  case ldc i =>
    simp only [Fi] at h ⊢
    split at h
    · rename_i e; first | exact hR _ _ _ _ _ _ hg h | (rw [e]; exact hR _ _ _ _ _ _ hg h)
    · exact h.elim
  case ldc_w i =>
    simp only [Fi] at h ⊢
    split at h
    · rename_i e; first | exact hR _ _ _ _ _ _ hg h | (rw [e]; exact hR _ _ _ _ _ _ hg h)
    · exact h.elim
  case ldc2_w i =>
    simp only [Fi] at h ⊢
    split at h
    · rename_i e; first | exact hR _ _ _ _ _ _ hg h | (rw [e]; exact hR _ _ _ _ _ _ hg h)
    · exact h.elim
  case if_icmp c off =>
    refine ⟨h.1, popI_mono (fun b st q => popI_mono (fun a st q => ?_) q) h.2⟩
    cases c <;> (dsimp only at q ⊢; split at q <;> rename_i hc <;> first | (rw [if_pos hc]; first | exact hR _ _ _ _ _ _ hg q | exact jmp_mono (fun _ q => hR _ _ _ _ _ _ hg q) q) | (rw [if_neg hc]; first | exact hR _ _ _ _ _ _ hg q | exact jmp_mono (fun _ q => hR _ _ _ _ _ _ hg q) q))
  case ifCond c off =>
    refine ⟨h.1, popI_mono (fun a st q => ?_) h.2⟩
    cases c <;> (dsimp only at q ⊢; split at q <;> rename_i hc <;> first | (rw [if_pos hc]; first | exact hR _ _ _ _ _ _ hg q | exact jmp_mono (fun _ q => hR _ _ _ _ _ _ hg q) q) | (rw [if_neg hc]; first | exact hR _ _ _ _ _ _ hg q | exact jmp_mono (fun _ q => hR _ _ _ _ _ _ hg q) q))
  case tableswitch d lo hi offs =>
    refine popI_mono (fun a st q => ?_) h
    split at q <;> rename_i hc
    · rw [if_pos hc]; exact jmp_mono (fun _ q => hR _ _ _ _ _ _ hg q) q
    · rw [if_neg hc]
      split at q
      · rename_i e; first | exact jmp_mono (fun _ q => hR _ _ _ _ _ _ hg q) q | (rw [e]; exact jmp_mono (fun _ q => hR _ _ _ _ _ _ hg q) q)
      · exact q.elim
  case getfield i =>
    refine popA_mono (fun a st q => ?_) h
    split at q
    · rename_i e
      have ek := mfk_lt e
      have e2 := q.2.1
      have e3 := hg a _ (show _ < (shp a).2 by rw [e2]; exact ek)
      first | exact ⟨q.1, q.2.1, hR _ _ _ _ _ _ hg (e3 ▸ q.2.2)⟩ | (rw [e]; refine ⟨q.1, q.2.1, ?_⟩; rw [← e3]; exact hR _ _ _ _ _ _ hg q.2.2)
    · exact q.elim
  case putfield i =>
    simp only [Fi] at h ⊢
    split at h
    · split at h
      · exact ⟨h.1, h.2.1, h.2.2.1, h.2.2.2.1, hR _ _ _ _ _ _ (hag_up hg) h.2.2.2.2⟩
      · exact h.elim
    · exact h.elim
  case getstatic i => exact ⟨h.1, hR _ _ _ _ _ _ hg h.2⟩
  case iaload =>
    refine popI_mono (fun b st q => popA_mono (fun a st q => ?_) q) h
    split at q <;> rename_i h1
    · rw [if_pos h1]; exact ⟨q.1, hR _ _ _ _ _ _ hg q.2⟩
    · rw [if_neg h1]
      split at q <;> rename_i h2
      · rw [if_pos h2]
        split at q
        · exact ⟨q.1, hR _ _ _ _ _ _ hg q.2⟩
        · exact q.elim
      · rw [if_neg h2]
        refine ⟨q.1, q.2.1, q.2.2.1, ?_⟩
        have e3 := hg a _ (vp_lt q.2.2.1)
        rw [← e3]
        replace q := q.2.2.2
        split at q
        · rename_i e; first | exact hR _ _ _ _ _ _ hg q | (rw [e]; exact hR _ _ _ _ _ _ hg q)
        · exact q.elim
  case laload =>
    refine popI_mono (fun b st q => popA_mono (fun a st q => ?_) q) h
    refine ⟨q.1, q.2.1, q.2.2.1, ?_⟩
    have e3 := hg a _ (vp_lt q.2.2.1)
    rw [← e3]
    replace q := q.2.2.2
    split at q
    · rename_i e; first | exact hR _ _ _ _ _ _ hg q | (rw [e]; exact hR _ _ _ _ _ _ hg q)
    · exact q.elim
  case aaload =>
    refine popI_mono (fun b st q => popA_mono (fun a st q => ?_) q) h
    refine ⟨q.1, q.2.1, q.2.2.1, ?_⟩
    have e3 := hg a _ (vp_lt q.2.2.1)
    rw [← e3]
    replace q := q.2.2.2
    split at q
    · rename_i e; first | exact hR _ _ _ _ _ _ hg q | (rw [e]; exact hR _ _ _ _ _ _ hg q)
    · exact q.elim
  case iastore => exact popI_mono (fun _ _ q => popI_mono (fun _ _ q => popA_mono (fun _ _ q => ⟨q.1, q.2.1, q.2.2.1, hR _ _ _ _ _ _ (hag_up hg) q.2.2.2⟩) q) q) h
  case lastore => exact popJ_mono (fun _ _ q => popI_mono (fun _ _ q => popA_mono (fun _ _ q => ⟨q.1, q.2.1, q.2.2.1, hR _ _ _ _ _ _ (hag_up hg) q.2.2.2⟩) q) q) h
  case aastore => exact popA_mono (fun _ _ q => popI_mono (fun _ _ q => popA_mono (fun _ _ q => ⟨q.1, q.2.1, q.2.2.1, q.2.2.2.1, hR _ _ _ _ _ _ (hag_up hg) q.2.2.2.2⟩) q) q) h
  case arraylength =>
    refine popA_mono (fun a st q => ?_) h
    split at q <;> rename_i h1
    · rw [if_pos h1]
      split at q
      · exact hR _ _ _ _ _ _ hg q
      · exact q.elim
    · rw [if_neg h1]; exact ⟨q.1, q.2.1, hR _ _ _ _ _ _ hg q.2.2⟩
  case new i =>
    simp only [Fi] at h ⊢
    split at h
    · exact ⟨h.1, h.2.1, h.2.2.1, h.2.2.2.1, hR _ _ _ _ _ _ (hag_row hg) h.2.2.2.2⟩
    · exact h.elim
  case newarray t =>
    refine popI_mono (fun a st q => ?_) h
    refine ⟨q.1, q.2.1, q.2.2.1, q.2.2.2.1, ?_⟩
    replace q := q.2.2.2.2
    cases t <;> first | exact ⟨q.1, hR _ _ _ _ _ _ (hag_row hg) q.2⟩ | exact q.elim
  case anewarray i =>
    refine popI_mono (fun a st q => ?_) h
    refine ⟨q.1, q.2.1, q.2.2.1, q.2.2.2.1, ?_⟩
    replace q := q.2.2.2.2
    split at q
    · exact ⟨q.1, hR _ _ _ _ _ _ (hag_row hg) q.2⟩
    · exact ⟨q.1, hR _ _ _ _ _ _ (hag_row hg) q.2⟩
    · exact q.elim
  case invokevirtual i =>
    simp only [Fi] at h ⊢
    split at h
    · exact ⟨h.1, h.2.1, h.2.2.1, popA_mono (fun _ _ q => ⟨q.1, q.2.1, q.2.2.1, mcall_cong hC hK hR hg q.2.2.2⟩) h.2.2.2⟩
    · exact h.elim
  case invokestatic i =>
    simp only [Fi] at h ⊢
    split at h
    · exact ⟨h.1, h.2.1, mcall_cong hC hK hR hg h.2.2⟩
    · exact ⟨h.1, h.2.1, mcall_cong hC hK hR hg h.2.2⟩
    · exact popI_mono (fun _ _ q => popI_mono (fun _ _ q => popA_mono (fun _ _ q => popI_mono (fun _ _ q => popA_mono (fun _ _ q => ⟨q.1, q.2.1, q.2.2.1, q.2.2.2.1, q.2.2.2.2.1, q.2.2.2.2.2.1, q.2.2.2.2.2.2.1, q.2.2.2.2.2.2.2.1, q.2.2.2.2.2.2.2.2.1, hR _ _ _ _ _ _ (hag_cpy hg q.2.2.2.2.2.2.2.1) q.2.2.2.2.2.2.2.2.2⟩) q) q) q) q) h
    · exact popI_mono (fun _ _ q => popI_mono (fun _ _ q => ⟨q.1, q.2.1, hR _ _ _ _ _ _ hg q.2.2⟩) q) h
    · exact popI_mono (fun _ _ q => popI_mono (fun _ _ q => ⟨q.1, q.2.1, hR _ _ _ _ _ _ hg q.2.2⟩) q) h
    · exact popI_mono (fun _ _ q => ⟨q.1, q.2.1, hR _ _ _ _ _ _ hg q.2.2⟩) h
    · exact h.elim
  case invokespecial i =>
    simp only [Fi] at h ⊢
    split at h
    · exact ⟨h.1, h.2.1, h.2.2.1, h.2.2.2.1, popA_mono (fun _ _ q => ⟨q.1, mcall_cong hC hK hR hg q.2⟩) h.2.2.2.2⟩
    · exact ⟨h.1, h.2.1, h.2.2.1, h.2.2.2.1, popA_mono (fun _ _ q => ⟨q.1, mcall_cong hC hK hR hg q.2⟩) h.2.2.2.2⟩
    · exact popA_mono (fun _ _ q => ⟨q.1, hR _ _ _ _ _ _ hg q.2⟩) h
    · exact h.elim
  case ireturn =>
    simp only [Fi] at h ⊢
    split at h
    · exact ⟨h.1, h.2.1, ⟨_, hg, h.2.2⟩⟩
    · exact h.elim
  case lreturn =>
    simp only [Fi] at h ⊢
    split at h
    · exact ⟨h.1, h.2.1, ⟨_, hg, h.2.2⟩⟩
    · exact h.elim
  case return_ =>
    simp only [Fi] at h ⊢
    split at h
    · exact ⟨h.1, h.2.1, ⟨_, hg, h.2.2⟩⟩
    · exact h.elim
theorem T_cong {C : mC} (hC : mMono C) (hK : mCong C) {X : Option (Nat × (Nat → Int32))} {y nm pc : Nat} {ls st : List Value} {hp hp' : mH} {n : Nat} {Q : Option Value → mH → Prop} (hg : hag hp hp') (h : T C X y nm pc ls st hp n Q) : T C X y nm pc ls st hp' n (hcl Q) := by
  refine h (fun pc ls st hp n => ∀ hp', hag hp hp' → T C X y nm pc ls st hp' n (hcl Q)) ?_ hp' hg
  intro pc ls st hp n q hp' hg
  refine T_fold hC ?_
  unfold F at q ⊢
  split at q
  · exact ⟨q.1, Fi_cong hC hK (fun _ _ _ _ _ _ e q => q _ e) hg _ q.2⟩
  · exact q.elim
theorem TM_cong : ∀ d, mCong (TM d)
  | 0 => fun _ _ _ _ _ _ _ h => h.elim
  | d + 1 => fun _ _ _ _ _ _ hg h => ⟨h.1, T_cong (TM_mono d) (TM_cong d) hg h.2⟩
