section FOLLOWS
variable {p : Program} {l : Launch} {e : Env} {R : Room} {s : State} {m : MethodId} {args : Array Value} {below : List Frame} {meth : Method} {c : Code} {Qw : State → Prop}
variable {D : va_G} {dA : Nat → ClassId} {base b t y n0 nm d : Nat} {C : mC} {X : Option (Nat × (Nat → Int32))} {Q : Option Value → mH → Prop}
set_option maxHeartbeats 8000000 in
set_option maxRecDepth 100000 in
theorem mStep (fx : mFx p R s m args meth c D dA base t y n0 nm d) (hnm : nm ≤ 1000) (hC : ∀ j as hp n Q, C j as hp n Q → mCt l d j as hp n Q) (hX : ∀ L xs, X = some (L, xs) → va_X b L xs s s.heap ∧ b < s.heap.size ∧ ¬ base ≤ b) (hRet : mRt p l e R s m args below meth c Qw D dA base b t y n0 nm Q)
    {pc : Nat} {ls st : List Value} {hp : mH} {n : Nat} {i : Instr} {len : Nat} (hdg : decode (mby y) pc = .ok (i, len)) (hl : lenOk i len = true) (h : Fi C X y nm (mWR p l e R s m args below meth c Qw D dA base b t y n0) Q pc ls st hp n i) : mWR p l e R s m args below meth c Qw D dA base b t y n0 pc ls st hp n := by
  have fx0 := fx
  obtain ⟨hx, hb, hml, hown, hts, hst, hsz, hinit, hfr, hlo, hce, hsl⟩ := fx
  obtain ⟨hK, hZ, hT, hXw⟩ := id hst
  cases i
  case iconst v =>
    obtain rfl : len = 1 := eq_of_beq hl
    intro H locs lsA hr
    exact lv_iconst hx hb hdg rfl (h H locs lsA hr)
  case bipush v =>
    obtain rfl : len = 2 := eq_of_beq hl
    intro H locs lsA hr
    exact lv_bipush hx hb hdg rfl (h H locs lsA hr)
  case sipush v =>
    obtain rfl : len = 3 := eq_of_beq hl
    intro H locs lsA hr
    exact lv_sipush hx hb hdg rfl (h H locs lsA hr)
  case lconst v =>
    obtain rfl : len = 1 := eq_of_beq hl
    intro H locs lsA hr
    exact lv_lconst hx hb hdg rfl (h H locs lsA hr)
  case ldc k =>
    obtain rfl : len = 2 := eq_of_beq hl
    simp only [Fi] at h
    split at h
    · rename_i v ev
      intro H locs lsA hr
      exact lv_ldc hx hb hown (hts _ (mki_ok ev)) hdg (h H locs lsA hr)
    · exact h.elim
  case ldc_w k =>
    obtain rfl : len = 3 := eq_of_beq hl
    simp only [Fi] at h
    split at h
    · rename_i v ev
      intro H locs lsA hr
      exact lv_ldcw hx hb hown (hts _ (mki_ok ev)) hdg (h H locs lsA hr)
    · exact h.elim
  case ldc2_w k =>
    obtain rfl : len = 3 := eq_of_beq hl
    simp only [Fi] at h
    split at h
    · rename_i v ev
      intro H locs lsA hr
      exact lv_ldc2 hx hb hown (hts _ (mkj_ok ev)) hdg (h H locs lsA hr)
    · exact h.elim
  case iload_n k =>
    obtain rfl : len = 1 := eq_of_beq hl
    obtain ⟨x, e1, h_⟩ := getI_of h
    clear h
    have h := h_
    clear h_
    intro H locs lsA hr
    exact lv_iload_n hx hb hdg rfl (mlv_at hr.2.2.2.2.1 (mlv_int e1)) (h H locs lsA hr)
  case iload k =>
    obtain rfl : len = 2 := eq_of_beq hl
    obtain ⟨x, e1, h_⟩ := getI_of h
    clear h
    have h := h_
    clear h_
    intro H locs lsA hr
    exact lv_iload hx hb hdg (mlv_at hr.2.2.2.2.1 (mlv_int e1)) (h H locs lsA hr)
  case aload_n k =>
    obtain rfl : len = 1 := eq_of_beq hl
    obtain ⟨x, e1, h_⟩ := getA_of h
    clear h
    have h := h_
    clear h_
    intro H locs lsA hr
    exact lv_aload_n hx hb hdg rfl (mlv_at hr.2.2.2.2.1 (mlv_ref e1)) (h H locs lsA hr)
  case aload k =>
    obtain rfl : len = 2 := eq_of_beq hl
    obtain ⟨x, e1, h_⟩ := getA_of h
    clear h
    have h := h_
    clear h_
    intro H locs lsA hr
    exact lv_aload hx hb hdg (mlv_at hr.2.2.2.2.1 (mlv_ref e1)) (h H locs lsA hr)
  case lload_n k =>
    obtain rfl : len = 1 := eq_of_beq hl
    obtain ⟨x, e1, e2, h_⟩ := getJ_of h
    clear h
    have h := h_
    clear h_
    intro H locs lsA hr
    exact lv_lload_n hx hb hdg rfl (mlv_at hr.2.2.2.2.1 (mlv_long e1 e2)) (h H locs lsA hr)
  case lload k =>
    obtain rfl : len = 2 := eq_of_beq hl
    obtain ⟨x, e1, e2, h_⟩ := getJ_of h
    clear h
    have h := h_
    clear h_
    intro H locs lsA hr
    exact lv_lload hx hb hdg (mlv_at hr.2.2.2.2.1 (mlv_long e1 e2)) (h H locs lsA hr)
  case istore_n k =>
    obtain rfl : len = 1 := eq_of_beq hl
    obtain ⟨x, r, rfl, hk, h_⟩ := popI_of h
    clear h
    have h := h_
    clear h_
    intro H locs lsA hr
    have hle := hr.2.2.2.2.2
    exact lv_istore_n (lv' := _) hx hb hdg rfl hr.2.2.2.2.1 (by omega) rfl (fun ls' hl' => h _ _ _ (hr.ls (mlv_set1 rfl rfl (fun z => by cases z) hk hl') List.length_set))
  case istore k =>
    obtain rfl : len = 2 := eq_of_beq hl
    obtain ⟨x, r, rfl, hk, h_⟩ := popI_of h
    clear h
    have h := h_
    clear h_
    intro H locs lsA hr
    have hle := hr.2.2.2.2.2
    exact lv_istore (lv' := _) hx hb hdg hr.2.2.2.2.1 (by omega) rfl (fun ls' hl' => h _ _ _ (hr.ls (mlv_set1 rfl rfl (fun z => by cases z) hk hl') List.length_set))
  case astore_n k =>
    obtain rfl : len = 1 := eq_of_beq hl
    obtain ⟨x, r, rfl, hk, h_⟩ := popA_of h
    clear h
    have h := h_
    clear h_
    intro H locs lsA hr
    have hle := hr.2.2.2.2.2
    exact lv_astore_n (lv' := _) hx hb hdg rfl hr.2.2.2.2.1 (by omega) rfl (fun ls' hl' => h _ _ _ (hr.ls (mlv_set1 rfl rfl (fun z => by cases z) hk hl') List.length_set))
  case astore k =>
    obtain rfl : len = 2 := eq_of_beq hl
    obtain ⟨x, r, rfl, hk, h_⟩ := popA_of h
    clear h
    have h := h_
    clear h_
    intro H locs lsA hr
    have hle := hr.2.2.2.2.2
    exact lv_astore (lv' := _) hx hb hdg hr.2.2.2.2.1 (by omega) rfl (fun ls' hl' => h _ _ _ (hr.ls (mlv_set1 rfl rfl (fun z => by cases z) hk hl') List.length_set))
  case lstore_n k =>
    obtain rfl : len = 1 := eq_of_beq hl
    obtain ⟨x, r, rfl, hk, h_⟩ := popJ_of h
    clear h
    have h := h_
    clear h_
    intro H locs lsA hr
    have hle := hr.2.2.2.2.2
    exact lv_lstore_n (lv' := _) hx hb hdg rfl hr.2.2.2.2.1 (by omega) rfl (fun ls' hl' => h _ _ _ (hr.ls (mlv_set2 hk hl') (by rw [List.length_set, List.length_set])))
  case lstore k =>
    obtain rfl : len = 2 := eq_of_beq hl
    obtain ⟨x, r, rfl, hk, h_⟩ := popJ_of h
    clear h
    have h := h_
    clear h_
    intro H locs lsA hr
    have hle := hr.2.2.2.2.2
    exact lv_lstore (lv' := _) hx hb hdg hr.2.2.2.2.1 (by omega) rfl (fun ls' hl' => h _ _ _ (hr.ls (mlv_set2 hk hl') (by rw [List.length_set, List.length_set])))
  case iinc k v =>
    obtain rfl : len = 3 := eq_of_beq hl
    obtain ⟨x, e1, h_⟩ := getI_of h
    clear h
    have h := h_
    clear h_
    intro H locs lsA hr
    have hle := hr.2.2.2.2.2
    have hk := (List.getElem?_eq_some_iff.mp e1).1
    obtain ⟨kk, hkk⟩ := List.getElem?_of_mem (mlv_of (mlv_int (ad := adf base b t) e1))
    exact lv_iinc (lv' := _) hx hb hdg hr.2.2.2.2.1 hkk rfl (by omega) rfl (fun ls' hl' => h _ _ _ (hr.ls (mlv_set1 rfl rfl (fun z => by cases z) hk hl') List.length_set))
  case dup =>
    obtain rfl : len = 1 := eq_of_beq hl
    obtain ⟨a, r, rfl, hc, h_⟩ := pop1_of h
    clear h
    have h := h_
    clear h_
    intro H locs lsA hr
    exact lv_dup hx hb hdg ((vmp_cat _ _).trans hc) (h H locs lsA hr)
  case pop =>
    obtain rfl : len = 1 := eq_of_beq hl
    obtain ⟨a, r, rfl, hc, h_⟩ := pop1_of h
    clear h
    have h := h_
    clear h_
    intro H locs lsA hr
    exact lv_pop hx hb hdg ((vmp_cat _ _).trans hc) (h H locs lsA hr)
  case dup_x1 =>
    obtain rfl : len = 1 := eq_of_beq hl
    obtain ⟨a, r, rfl, hc, h_⟩ := pop1_of h
    clear h
    have h := h_
    clear h_
    obtain ⟨a2, r, rfl, hc2, h_⟩ := pop1_of h
    clear h
    have h := h_
    clear h_
    intro H locs lsA hr
    exact lv_dup_x1 hx hb hdg ((vmp_cat _ _).trans hc) ((vmp_cat _ _).trans hc2) (h H locs lsA hr)
  case dup2 =>
    obtain rfl : len = 1 := eq_of_beq hl
    obtain ⟨a, r, rfl, hc, h_⟩ := pop1_of h
    clear h
    have h := h_
    clear h_
    obtain ⟨a2, r, rfl, hc2, h_⟩ := pop1_of h
    clear h
    have h := h_
    clear h_
    intro H locs lsA hr
    exact lv_dup2_11 hx hb hdg ((vmp_cat _ _).trans hc) ((vmp_cat _ _).trans hc2) (h H locs lsA hr)
  case goto off =>
    obtain rfl : len = 3 := eq_of_beq hl
    simp only [Fi] at h
    obtain ⟨tgt, ht, h_⟩ := jmp_of h
    clear h
    have h := h_
    clear h_
    intro H locs lsA hr
    exact lv_goto hx hb hdg ht (h H locs lsA hr)
  case i2b =>
    obtain rfl : len = 1 := eq_of_beq hl
    obtain ⟨a, r, rfl, h_⟩ := popI_of h
    clear h
    have h := h_
    clear h_
    intro H locs lsA hr
    exact lv_i2b hx hb hdg rfl (h H locs lsA hr)
  case i2l =>
    obtain rfl : len = 1 := eq_of_beq hl
    obtain ⟨a, r, rfl, h_⟩ := popI_of h
    clear h
    have h := h_
    clear h_
    intro H locs lsA hr
    exact lv_i2l hx hb hdg rfl (h H locs lsA hr)
  case l2i =>
    obtain rfl : len = 1 := eq_of_beq hl
    obtain ⟨a, r, rfl, h_⟩ := popJ_of h
    clear h
    have h := h_
    clear h_
    intro H locs lsA hr
    exact lv_l2i hx hb hdg rfl (h H locs lsA hr)
  case ineg =>
    obtain rfl : len = 1 := eq_of_beq hl
    obtain ⟨a, r, rfl, h_⟩ := popI_of h
    clear h
    have h := h_
    clear h_
    intro H locs lsA hr
    exact lv_ineg hx hb hdg (h H locs lsA hr)
  case iadd =>
    obtain rfl : len = 1 := eq_of_beq hl
    obtain ⟨a, r, rfl, h_⟩ := popI_of h
    clear h
    have h := h_
    clear h_
    obtain ⟨a2, r, rfl, h_⟩ := popI_of h
    clear h
    have h := h_
    clear h_
    intro H locs lsA hr
    exact lv_iadd hx hb hdg (h H locs lsA hr)
  case isub =>
    obtain rfl : len = 1 := eq_of_beq hl
    obtain ⟨a, r, rfl, h_⟩ := popI_of h
    clear h
    have h := h_
    clear h_
    obtain ⟨a2, r, rfl, h_⟩ := popI_of h
    clear h
    have h := h_
    clear h_
    intro H locs lsA hr
    exact lv_isub hx hb hdg (h H locs lsA hr)
  case imul =>
    obtain rfl : len = 1 := eq_of_beq hl
    obtain ⟨a, r, rfl, h_⟩ := popI_of h
    clear h
    have h := h_
    clear h_
    obtain ⟨a2, r, rfl, h_⟩ := popI_of h
    clear h
    have h := h_
    clear h_
    intro H locs lsA hr
    exact lv_imul hx hb hdg (h H locs lsA hr)
  case iand =>
    obtain rfl : len = 1 := eq_of_beq hl
    obtain ⟨a, r, rfl, h_⟩ := popI_of h
    clear h
    have h := h_
    clear h_
    obtain ⟨a2, r, rfl, h_⟩ := popI_of h
    clear h
    have h := h_
    clear h_
    intro H locs lsA hr
    exact lv_iand hx hb hdg (h H locs lsA hr)
  case ior =>
    obtain rfl : len = 1 := eq_of_beq hl
    obtain ⟨a, r, rfl, h_⟩ := popI_of h
    clear h
    have h := h_
    clear h_
    obtain ⟨a2, r, rfl, h_⟩ := popI_of h
    clear h
    have h := h_
    clear h_
    intro H locs lsA hr
    exact lv_ior hx hb hdg (h H locs lsA hr)
  case ixor =>
    obtain rfl : len = 1 := eq_of_beq hl
    obtain ⟨a, r, rfl, h_⟩ := popI_of h
    clear h
    have h := h_
    clear h_
    obtain ⟨a2, r, rfl, h_⟩ := popI_of h
    clear h
    have h := h_
    clear h_
    intro H locs lsA hr
    exact lv_ixor hx hb hdg (h H locs lsA hr)
  case ishl =>
    obtain rfl : len = 1 := eq_of_beq hl
    obtain ⟨a, r, rfl, h_⟩ := popI_of h
    clear h
    have h := h_
    clear h_
    obtain ⟨a2, r, rfl, h_⟩ := popI_of h
    clear h
    have h := h_
    clear h_
    intro H locs lsA hr
    exact lv_ishl hx hb hdg (h H locs lsA hr)
  case ishr =>
    obtain rfl : len = 1 := eq_of_beq hl
    obtain ⟨a, r, rfl, h_⟩ := popI_of h
    clear h
    have h := h_
    clear h_
    obtain ⟨a2, r, rfl, h_⟩ := popI_of h
    clear h
    have h := h_
    clear h_
    intro H locs lsA hr
    exact lv_ishr hx hb hdg (h H locs lsA hr)
  case iushr =>
    obtain rfl : len = 1 := eq_of_beq hl
    obtain ⟨a, r, rfl, h_⟩ := popI_of h
    clear h
    have h := h_
    clear h_
    obtain ⟨a2, r, rfl, h_⟩ := popI_of h
    clear h
    have h := h_
    clear h_
    intro H locs lsA hr
    exact lv_iushr hx hb hdg rfl (h H locs lsA hr)
  case idiv =>
    obtain rfl : len = 1 := eq_of_beq hl
    obtain ⟨a, r, rfl, h_⟩ := popI_of h
    clear h
    have h := h_
    clear h_
    obtain ⟨a2, r, rfl, hne, h_⟩ := popI_of h
    clear h
    have h := h_
    clear h_
    intro H locs lsA hr
    exact lv_idiv hx hb hdg hne (h H locs lsA hr)
  case irem =>
    obtain rfl : len = 1 := eq_of_beq hl
    obtain ⟨a, r, rfl, h_⟩ := popI_of h
    clear h
    have h := h_
    clear h_
    obtain ⟨a2, r, rfl, hne, h_⟩ := popI_of h
    clear h
    have h := h_
    clear h_
    intro H locs lsA hr
    exact lv_irem hx hb hdg hne (h H locs lsA hr)
  case ladd =>
    obtain rfl : len = 1 := eq_of_beq hl
    obtain ⟨a, r, rfl, h_⟩ := popJ_of h
    clear h
    have h := h_
    clear h_
    obtain ⟨a2, r, rfl, h_⟩ := popJ_of h
    clear h
    have h := h_
    clear h_
    intro H locs lsA hr
    exact lv_ladd hx hb hdg (h H locs lsA hr)
  case lsub =>
    obtain rfl : len = 1 := eq_of_beq hl
    obtain ⟨a, r, rfl, h_⟩ := popJ_of h
    clear h
    have h := h_
    clear h_
    obtain ⟨a2, r, rfl, h_⟩ := popJ_of h
    clear h
    have h := h_
    clear h_
    intro H locs lsA hr
    exact lv_lsub hx hb hdg (h H locs lsA hr)
  case lmul =>
    obtain rfl : len = 1 := eq_of_beq hl
    obtain ⟨a, r, rfl, h_⟩ := popJ_of h
    clear h
    have h := h_
    clear h_
    obtain ⟨a2, r, rfl, h_⟩ := popJ_of h
    clear h
    have h := h_
    clear h_
    intro H locs lsA hr
    exact lv_lmul hx hb hdg (h H locs lsA hr)
  case land =>
    obtain rfl : len = 1 := eq_of_beq hl
    obtain ⟨a, r, rfl, h_⟩ := popJ_of h
    clear h
    have h := h_
    clear h_
    obtain ⟨a2, r, rfl, h_⟩ := popJ_of h
    clear h
    have h := h_
    clear h_
    intro H locs lsA hr
    exact lv_land hx hb hdg (h H locs lsA hr)
  case lor =>
    obtain rfl : len = 1 := eq_of_beq hl
    obtain ⟨a, r, rfl, h_⟩ := popJ_of h
    clear h
    have h := h_
    clear h_
    obtain ⟨a2, r, rfl, h_⟩ := popJ_of h
    clear h
    have h := h_
    clear h_
    intro H locs lsA hr
    exact lv_lor hx hb hdg (h H locs lsA hr)
  case ldiv =>
    obtain rfl : len = 1 := eq_of_beq hl
    obtain ⟨a, r, rfl, h_⟩ := popJ_of h
    clear h
    have h := h_
    clear h_
    obtain ⟨a2, r, rfl, hne, h_⟩ := popJ_of h
    clear h
    have h := h_
    clear h_
    intro H locs lsA hr
    exact lv_ldiv hx hb hdg hne (h H locs lsA hr)
  case lrem =>
    obtain rfl : len = 1 := eq_of_beq hl
    obtain ⟨a, r, rfl, h_⟩ := popJ_of h
    clear h
    have h := h_
    clear h_
    obtain ⟨a2, r, rfl, hne, h_⟩ := popJ_of h
    clear h
    have h := h_
    clear h_
    intro H locs lsA hr
    exact lv_lrem hx hb hdg hne (h H locs lsA hr)
  case lshl =>
    obtain rfl : len = 1 := eq_of_beq hl
    obtain ⟨a, r, rfl, h_⟩ := popI_of h
    clear h
    have h := h_
    clear h_
    obtain ⟨a2, r, rfl, h_⟩ := popJ_of h
    clear h
    have h := h_
    clear h_
    intro H locs lsA hr
    exact lv_lshl hx hb hdg rfl (h H locs lsA hr)
  case lshr =>
    obtain rfl : len = 1 := eq_of_beq hl
    obtain ⟨a, r, rfl, h_⟩ := popI_of h
    clear h
    have h := h_
    clear h_
    obtain ⟨a2, r, rfl, h_⟩ := popJ_of h
    clear h
    have h := h_
    clear h_
    intro H locs lsA hr
    exact lv_lshr hx hb hdg rfl (h H locs lsA hr)
  case lcmp =>
    obtain rfl : len = 1 := eq_of_beq hl
    obtain ⟨a, r, rfl, h_⟩ := popJ_of h
    clear h
    have h := h_
    clear h_
    obtain ⟨a2, r, rfl, h_⟩ := popJ_of h
    clear h
    have h := h_
    clear h_
    intro H locs lsA hr
    exact W.lcmp hx hb hdg (h H locs lsA hr)
  case if_icmp cd off =>
    obtain rfl : len = 3 := eq_of_beq hl
    obtain ⟨h0, h⟩ := h
    have ht := (Int.toNat_of_nonneg h0).symm
    clear h0
    cases cd
    case eq =>
      obtain ⟨a, r, rfl, h_⟩ := popI_of h
      clear h
      have h1 := h_
      clear h_
      obtain ⟨a2, r, rfl, h_⟩ := popI_of h1
      clear h1
      have h1 := h_
      clear h_
      intro H locs lsA hr
      exact lv_icmp_eq hx hb hdg ht (fun z => by dsimp only at h1; rw [if_pos z] at h1; exact h1.2 H locs lsA hr) (fun z => by dsimp only at h1; rw [if_neg z] at h1; exact h1 H locs lsA hr)
    case ne =>
      obtain ⟨a, r, rfl, h_⟩ := popI_of h
      clear h
      have h1 := h_
      clear h_
      obtain ⟨a2, r, rfl, h_⟩ := popI_of h1
      clear h1
      have h1 := h_
      clear h_
      intro H locs lsA hr
      exact lv_icmp_ne hx hb hdg ht (fun z => by dsimp only at h1; rw [if_neg z] at h1; exact h1.2 H locs lsA hr) (fun z => by dsimp only at h1; rw [if_pos z] at h1; exact h1 H locs lsA hr)
    case lt =>
      obtain ⟨a, r, rfl, h_⟩ := popI_of h
      clear h
      have h1 := h_
      clear h_
      obtain ⟨a2, r, rfl, h_⟩ := popI_of h1
      clear h1
      have h1 := h_
      clear h_
      intro H locs lsA hr
      exact lv_icmp_lt hx hb hdg ht (fun z => by dsimp only at h1; rw [if_pos z] at h1; exact h1.2 H locs lsA hr) (fun z => by dsimp only at h1; rw [if_neg z] at h1; exact h1 H locs lsA hr)
    case ge =>
      obtain ⟨a, r, rfl, h_⟩ := popI_of h
      clear h
      have h1 := h_
      clear h_
      obtain ⟨a2, r, rfl, h_⟩ := popI_of h1
      clear h1
      have h1 := h_
      clear h_
      intro H locs lsA hr
      exact lv_icmp_ge hx hb hdg ht (fun z => by dsimp only at h1; rw [if_pos z] at h1; exact h1.2 H locs lsA hr) (fun z => by dsimp only at h1; rw [if_neg z] at h1; exact h1 H locs lsA hr)
    case gt =>
      obtain ⟨a, r, rfl, h_⟩ := popI_of h
      clear h
      have h1 := h_
      clear h_
      obtain ⟨a2, r, rfl, h_⟩ := popI_of h1
      clear h1
      have h1 := h_
      clear h_
      intro H locs lsA hr
      exact lv_icmp_gt hx hb hdg ht (fun z => by dsimp only at h1; rw [if_pos z] at h1; exact h1.2 H locs lsA hr) (fun z => by dsimp only at h1; rw [if_neg z] at h1; exact h1 H locs lsA hr)
    case le =>
      obtain ⟨a, r, rfl, h_⟩ := popI_of h
      clear h
      have h1 := h_
      clear h_
      obtain ⟨a2, r, rfl, h_⟩ := popI_of h1
      clear h1
      have h1 := h_
      clear h_
      intro H locs lsA hr
      exact lv_icmp_le hx hb hdg ht (fun z => by dsimp only at h1; rw [if_pos z] at h1; exact h1.2 H locs lsA hr) (fun z => by dsimp only at h1; rw [if_neg z] at h1; exact h1 H locs lsA hr)
  case ifCond cd off =>
    obtain rfl : len = 3 := eq_of_beq hl
    obtain ⟨h0, h⟩ := h
    have ht := (Int.toNat_of_nonneg h0).symm
    clear h0
    cases cd
    case eq =>
      obtain ⟨a, r, rfl, h_⟩ := popI_of h
      clear h
      have h1 := h_
      clear h_
      intro H locs lsA hr
      exact lv_if_eq hx hb hdg ht (fun z => by dsimp only at h1; rw [if_pos z] at h1; exact h1.2 H locs lsA hr) (fun z => by dsimp only at h1; rw [if_neg z] at h1; exact h1 H locs lsA hr)
    case ne =>
      obtain ⟨a, r, rfl, h_⟩ := popI_of h
      clear h
      have h1 := h_
      clear h_
      intro H locs lsA hr
      exact lv_if_ne hx hb hdg ht (fun z => by dsimp only at h1; rw [if_neg z] at h1; exact h1.2 H locs lsA hr) (fun z => by dsimp only at h1; rw [if_pos z] at h1; exact h1 H locs lsA hr)
    case lt =>
      obtain ⟨a, r, rfl, h_⟩ := popI_of h
      clear h
      have h1 := h_
      clear h_
      intro H locs lsA hr
      exact lv_if_lt hx hb hdg ht (fun z => by dsimp only at h1; rw [if_pos z] at h1; exact h1.2 H locs lsA hr) (fun z => by dsimp only at h1; rw [if_neg z] at h1; exact h1 H locs lsA hr)
    case ge =>
      obtain ⟨a, r, rfl, h_⟩ := popI_of h
      clear h
      have h1 := h_
      clear h_
      intro H locs lsA hr
      exact lv_if_ge hx hb hdg ht (fun z => by dsimp only at h1; rw [if_pos z] at h1; exact h1.2 H locs lsA hr) (fun z => by dsimp only at h1; rw [if_neg z] at h1; exact h1 H locs lsA hr)
    case gt =>
      obtain ⟨a, r, rfl, h_⟩ := popI_of h
      clear h
      have h1 := h_
      clear h_
      intro H locs lsA hr
      exact lv_if_gt hx hb hdg ht (fun z => by dsimp only at h1; rw [if_pos z] at h1; exact h1.2 H locs lsA hr) (fun z => by dsimp only at h1; rw [if_neg z] at h1; exact h1 H locs lsA hr)
    case le =>
      obtain ⟨a, r, rfl, h_⟩ := popI_of h
      clear h
      have h1 := h_
      clear h_
      intro H locs lsA hr
      exact lv_if_le hx hb hdg ht (fun z => by dsimp only at h1; rw [if_pos z] at h1; exact h1.2 H locs lsA hr) (fun z => by dsimp only at h1; rw [if_neg z] at h1; exact h1 H locs lsA hr)
  case tableswitch df lo hi offs =>
    obtain ⟨a, r, rfl, h_⟩ := popI_of h
    clear h
    have h := h_
    clear h_
    intro H locs lsA hr
    split at h
    · rename_i hc
      obtain ⟨tgt, ht, h_⟩ := jmp_of h
      clear h
      have h := h_
      clear h_
      exact lv_tableOut hx hb hdg hc ht (h H locs lsA hr)
    · rename_i hc
      split at h
      · rename_i off ho
        obtain ⟨tgt, ht, h_⟩ := jmp_of h
        clear h
        have h := h_
        clear h_
        exact lv_tableIn hx hb hdg (fun z => hc (Or.inl z)) (fun z => hc (Or.inr z)) ho ht (h H locs lsA hr)
      · exact h.elim
  case getfield k0 =>
    obtain rfl : len = 3 := eq_of_beq hl
    obtain ⟨q, r, rfl, h_⟩ := popA_of h
    clear h
    have h := h_
    clear h_
    split at h
    · rename_i c0 k ef
      obtain ⟨hq, hsh, h⟩ := h
      obtain ⟨hw, hc, hk⟩ := mfk_ok ef
      intro H locs lsA hr
      have hn := hr.2.1
      show W p l e R s m args below meth c H locs (n - n0) (tt n - tt n0) Qw (F0 m pc lsA (.ref (adf base b t q) :: r.map (vmp (adf base b t))))
      rw [adf_lt (by omega)]
      exact va_get (D := D) (ci := c0) (v := vmp (adf base b t) (hp q k)) (C := mcn c0) (T := mT c0) (N := mnf c0) hx hb hts (mLY hc) hown hK hr.2.2.1 q ((mwl_get hq).trans (by rw [mel_o hsh hc])) (mcl_at hc) k hk (hts _ hw) (fun _ h9 => h9) (by simp [mrows, hk]) hdg (h H locs lsA hr)
    · exact h.elim
  case putfield k0 =>
    obtain rfl : len = 3 := eq_of_beq hl
    simp only [Fi] at h
    split at h
    · rename_i v q r
      split at h
      · rename_i c0 k ef
        obtain ⟨hq, hsh, hv, hfin, h⟩ := h
        obtain ⟨hw, hc, hk⟩ := mfk_ok ef
        intro H locs lsA hr
        have hn := hr.2.1
        obtain ⟨v1, v2⟩ := vok_fits (ad := adf base b t) hv
        have es : (mwl (adf base b t) dA hp base n).set q (base + q, .inr (c0, (mrows (adf base b t) hp q (mnf c0)).set k (vmp (adf base b t) v))) = mwl (adf base b t) dA (mup hp q k v) base n := mwl_set hq (by rw [mel_o hsh hc, mrows_set]) (fun j hj => mel_congr (mup_ne hj))
        show W p l e R s m args below meth c H locs (n - n0) (tt n - tt n0) Qw (F0 m pc lsA (vmp (adf base b t) v :: .ref (adf base b t q) :: r.map (vmp (adf base b t))))
        rw [adf_lt (Nat.lt_of_lt_of_le hq hn)]
        by_cases hf : (mT c0 k).2.2.2 = true
        · obtain ⟨f1, f2⟩ := hfin hf
          refine va_putF (D := D) (ci := c0) (ty := mtyp c0 k) (C := mcn c0) (T := mT c0) (N := mnf c0) hx hb hts (mLY hc) (mtyp c0) (mtyp_ok hc) (mnm_ok hc) hown hK hr.2.2.1 mwl_D hr.2.2.2.1 q ((mwl_get hq).trans (by rw [mel_o hsh hc])) (mcl_at hc) k hk (hts _ hw) (fun _ h9 => h9) hf (hinit f1) ((mdecl_ok hc k hk).trans (by rw [f2])) (mtyp_ok hc k hk) v1 v2 (by simp [mrows, hk]) hdg (fun H1 locs1 hP1 _ hS1 => ?_)
          rw [es] at hP1
          exact h H1 locs1 lsA (hr.hp hP1 hS1)
        · refine va_put (D := D) (ci := c0) (ty := mtyp c0 k) (C := mcn c0) (T := mT c0) (N := mnf c0) hx hb hts (mLY hc) (mtyp c0) (mtyp_ok hc) (mnm_ok hc) hown hK hr.2.2.1 mwl_D hr.2.2.2.1 q ((mwl_get hq).trans (by rw [mel_o hsh hc])) (mcl_at hc) k hk (hts _ hw) (fun _ h9 => h9) (by simpa using hf) (mtyp_ok hc k hk) v1 v2 (by simp [mrows, hk]) hdg (fun H1 locs1 hP1 _ hS1 => ?_)
          rw [es] at hP1
          exact h H1 locs1 lsA (hr.hp hP1 hS1)
      · exact h.elim
    · exact h.elim
  case getstatic k0 =>
    obtain rfl : len = 3 := eq_of_beq hl
    obtain ⟨hm, h⟩ := h
    intro H locs lsA hr
    simp only [msf, Bool.and_eq_true, beq_iff_eq] at hm
    obtain ⟨m1, m2⟩ := hm
    subst m2
    refine va_gets (v := .ref t) hx hb hZ hr.2.2.2.1 hown (hts _ (gws_of mSF_ok rfl |> fun z => by rw [m1]; exact z)) (fun _ h9 => h9) hdg ?_
    have h1 := h H locs lsA hr
    simp only [List.map_cons, vmp, adf_t] at h1
    exact h1
  case iaload =>
    obtain rfl : len = 1 := eq_of_beq hl
    obtain ⟨a, r, rfl, h_⟩ := popI_of h
    clear h
    have h := h_
    clear h_
    obtain ⟨q, r, rfl, h_⟩ := popA_of h
    clear h
    have h := h_
    clear h_
    intro H locs lsA hr
    have hn := hr.2.1
    show W p l e R s m args below meth c H locs (n - n0) (tt n - tt n0) Qw (F0 m pc lsA (.int a :: .ref (adf base b t q) :: r.map (vmp (adf base b t))))
    split at h
    · rename_i hq
      subst hq
      rw [adf_t]
      exact va_ti hx hb hT hr.2.2.2.1 h.1 rfl hdg (h.2 H locs lsA hr)
    · split at h
      · rename_i hq
        subst hq
        rw [adf_s]
        split at h
        · rename_i L xs
          obtain ⟨x1, x2, x3⟩ := hX L xs rfl
          exact va_sld hx hb x1 x2 x3 hr.2.2.2.1 h.1 hdg (h.2 H locs lsA hr)
        · exact h.elim
      · obtain ⟨hq, hk, hin, h⟩ := h
        rw [adf_lt (by omega)]
        split at h
        · rename_i x ex
          refine va_iald (D := D) hx hb hK hr.2.2.1 q 0 ((mwl_get hq).trans (by rw [mel_i hk])) rfl hin hdg ?_
          simp only [ex, vI]
          exact h H locs lsA hr
        · exact h.elim
  case laload =>
    obtain rfl : len = 1 := eq_of_beq hl
    obtain ⟨a, r, rfl, h_⟩ := popI_of h
    clear h
    have h := h_
    clear h_
    obtain ⟨q, r, rfl, h_⟩ := popA_of h
    clear h
    have h := h_
    clear h_
    intro H locs lsA hr
    have hn := hr.2.1
    show W p l e R s m args below meth c H locs (n - n0) (tt n - tt n0) Qw (F0 m pc lsA (.int a :: .ref (adf base b t q) :: r.map (vmp (adf base b t))))
    obtain ⟨hq, hk, hin, h⟩ := h
    rw [adf_lt (by omega)]
    split at h
    · rename_i x ex
      refine va_lald (D := D) hx hb hK hr.2.2.1 q 1 ((mwl_get hq).trans (by rw [mel_j hk])) rfl hin hdg ?_
      simp only [ex, vJ]
      exact h H locs lsA hr
    · exact h.elim
  case aaload =>
    obtain rfl : len = 1 := eq_of_beq hl
    obtain ⟨a, r, rfl, h_⟩ := popI_of h
    clear h
    have h := h_
    clear h_
    obtain ⟨q, r, rfl, h_⟩ := popA_of h
    clear h
    have h := h_
    clear h_
    intro H locs lsA hr
    have hn := hr.2.1
    show W p l e R s m args below meth c H locs (n - n0) (tt n - tt n0) Qw (F0 m pc lsA (.int a :: .ref (adf base b t q) :: r.map (vmp (adf base b t))))
    obtain ⟨hq, hk, hin, h⟩ := h
    rw [adf_lt (by omega)]
    split at h
    · rename_i x ex
      rcases hk with hk | hk
      · refine va_aldq (D := D) hx hb hK hr.2.2.1 q 2 ((mwl_get hq).trans (by rw [mel_q hk])) rfl hin hdg ?_
        simp only [ex, vR, va_rf]
        exact h H locs lsA hr
      · refine va_aldq (D := D) hx hb hK hr.2.2.1 q 3 ((mwl_get hq).trans (by rw [mel_h hk])) rfl hin hdg ?_
        simp only [ex, vR, va_rf]
        exact h H locs lsA hr
    · exact h.elim
  case iastore =>
    obtain rfl : len = 1 := eq_of_beq hl
    obtain ⟨x, r, rfl, h_⟩ := popI_of h
    clear h
    have h := h_
    clear h_
    obtain ⟨a, r, rfl, h_⟩ := popI_of h
    clear h
    have h := h_
    clear h_
    obtain ⟨q, r, rfl, h_⟩ := popA_of h
    clear h
    have h := h_
    clear h_
    intro H locs lsA hr
    have hn := hr.2.1
    show W p l e R s m args below meth c H locs (n - n0) (tt n - tt n0) Qw (F0 m pc lsA (.int x :: .int a :: .ref (adf base b t q) :: r.map (vmp (adf base b t))))
    obtain ⟨hq, hk, hin, h⟩ := h
    rw [adf_lt (by omega)]
    have es : (mwl (adf base b t) dA hp base n).set q (base + q, .inl (dA 16, (shp q).2, .inl (upd (fun j => vI (hp q j)) a.toNatClampNeg x))) = mwl (adf base b t) dA (mup hp q a.toNatClampNeg (.int x)) base n := mwl_set hq (by rw [mel_i hk]; congr 3; congr 1; funext j; by_cases hj : j = a.toNatClampNeg <;> simp [upd, mup, hj, vI]) (fun j hj => mel_congr (mup_ne hj))
    refine va_iast (D := D) hx hb hK hr.2.2.1 mwl_D hr.2.2.2.1 q 0 ((mwl_get hq).trans (by rw [mel_i hk])) rfl hin hdg (fun H1 locs1 hP1 _ hS1 => ?_)
    rw [es] at hP1
    exact h H1 locs1 lsA (hr.hp hP1 hS1)
  case lastore =>
    obtain rfl : len = 1 := eq_of_beq hl
    obtain ⟨x, r, rfl, h_⟩ := popJ_of h
    clear h
    have h := h_
    clear h_
    obtain ⟨a, r, rfl, h_⟩ := popI_of h
    clear h
    have h := h_
    clear h_
    obtain ⟨q, r, rfl, h_⟩ := popA_of h
    clear h
    have h := h_
    clear h_
    intro H locs lsA hr
    have hn := hr.2.1
    show W p l e R s m args below meth c H locs (n - n0) (tt n - tt n0) Qw (F0 m pc lsA (.long x :: .int a :: .ref (adf base b t q) :: r.map (vmp (adf base b t))))
    obtain ⟨hq, hk, hin, h⟩ := h
    rw [adf_lt (by omega)]
    have es : (mwl (adf base b t) dA hp base n).set q (base + q, .inl (dA 17, (shp q).2, .inr (.inl (vp_updL (fun j => vJ (hp q j)) a.toNatClampNeg x)))) = mwl (adf base b t) dA (mup hp q a.toNatClampNeg (.long x)) base n := mwl_set hq (by rw [mel_j hk]; congr 3; congr 1; congr 1; funext j; by_cases hj : j = a.toNatClampNeg <;> simp [vp_updL, mup, hj, vJ]) (fun j hj => mel_congr (mup_ne hj))
    refine va_last (D := D) hx hb hK hr.2.2.1 mwl_D hr.2.2.2.1 q 1 ((mwl_get hq).trans (by rw [mel_j hk])) rfl hin hdg (fun H1 locs1 hP1 _ hS1 => ?_)
    rw [es] at hP1
    exact h H1 locs1 lsA (hr.hp hP1 hS1)
  case aastore =>
    obtain rfl : len = 1 := eq_of_beq hl
    obtain ⟨x, r, rfl, h_⟩ := popA_of h
    clear h
    have h := h_
    clear h_
    obtain ⟨a, r, rfl, h_⟩ := popI_of h
    clear h
    have h := h_
    clear h_
    obtain ⟨q, r, rfl, h_⟩ := popA_of h
    clear h
    have h := h_
    clear h_
    intro H locs lsA hr
    have hn := hr.2.1
    show W p l e R s m args below meth c H locs (n - n0) (tt n - tt n0) Qw (F0 m pc lsA (.ref (adf base b t x) :: .int a :: .ref (adf base b t q) :: r.map (vmp (adf base b t))))
    obtain ⟨hq, hxn, hk, hin, h⟩ := h
    rw [adf_lt (by omega), adf_lt (by omega)]
    rcases hk with ⟨hk, hs⟩ | ⟨hk, hs⟩
    · have es : (mwl (adf base b t) dA hp base n).set q (base + q, .inl (dA 18, (shp q).2, .inr (.inr (.inr (.inr (va_up (fun j => vR (adf base b t) (hp q j)) a.toNatClampNeg (some (base + x)))))))) = mwl (adf base b t) dA (mup hp q a.toNatClampNeg (.ref x)) base n := mwl_set hq (by rw [mel_q hk]; congr 3; congr 1; congr 1; congr 1; congr 1; funext j; by_cases hj : j = a.toNatClampNeg <;> simp [va_up, mup, hj, vR]; rw [adf_lt (by omega)]) (fun j hj => mel_congr (mup_ne hj))
      refine va_astq (D := D) (r := (mcn 2, mT 2, mnf 2)) hx hb hK hr.2.2.1 mwl_D hr.2.2.2.1 q 2 x 2 ((mwl_get hq).trans (by rw [mel_q hk])) rfl ((mwl_get hxn).trans (by rw [mel_o hs (by omega)])) rfl hin hdg (fun H1 locs1 hP1 _ hS1 => ?_)
      rw [es] at hP1
      exact h H1 locs1 lsA (hr.hp hP1 hS1)
    · have es : (mwl (adf base b t) dA hp base n).set q (base + q, .inl (dA 19, (shp q).2, .inr (.inr (.inr (.inr (va_up (fun j => vR (adf base b t) (hp q j)) a.toNatClampNeg (some (base + x)))))))) = mwl (adf base b t) dA (mup hp q a.toNatClampNeg (.ref x)) base n := mwl_set hq (by rw [mel_h hk]; congr 3; congr 1; congr 1; congr 1; congr 1; funext j; by_cases hj : j = a.toNatClampNeg <;> simp [va_up, mup, hj, vR]; rw [adf_lt (by omega)]) (fun j hj => mel_congr (mup_ne hj))
      refine va_astq (D := D) (r := (mcn 3, mT 3, mnf 3)) hx hb hK hr.2.2.1 mwl_D hr.2.2.2.1 q 3 x 3 ((mwl_get hq).trans (by rw [mel_h hk])) rfl ((mwl_get hxn).trans (by rw [mel_o hs (by omega)])) rfl hin hdg (fun H1 locs1 hP1 _ hS1 => ?_)
      rw [es] at hP1
      exact h H1 locs1 lsA (hr.hp hP1 hS1)
  case arraylength =>
    obtain rfl : len = 1 := eq_of_beq hl
    obtain ⟨q, r, rfl, h_⟩ := popA_of h
    clear h
    have h := h_
    clear h_
    intro H locs lsA hr
    have hn := hr.2.1
    show W p l e R s m args below meth c H locs (n - n0) (tt n - tt n0) Qw (F0 m pc lsA (.ref (adf base b t q) :: r.map (vmp (adf base b t))))
    split at h
    · rename_i hq
      subst hq
      rw [adf_s]
      split at h
      · rename_i L xs
        obtain ⟨x1, x2, x3⟩ := hX L xs rfl
        exact va_slen hx hb x1 x2 x3 hr.2.2.2.1 hdg (h H locs lsA hr)
      · exact h.elim
    · obtain ⟨hq, hk, h⟩ := h
      rw [adf_lt (by omega)]
      rcases hk with hk | hk
      · exact va_alen (D := D) (x := ((shp q).2, .inl (fun j => vI (hp q j)))) hx hb hK hr.2.2.1 q 0 ((mwl_get hq).trans (by rw [mel_i hk])) rfl rfl hdg (h H locs lsA hr)
      · exact va_alen (D := D) (x := ((shp q).2, .inr (.inl (fun j => vJ (hp q j))))) hx hb hK hr.2.2.1 q 1 ((mwl_get hq).trans (by rw [mel_j hk])) rfl rfl hdg (h H locs lsA hr)
  case new k0 =>
    obtain rfl : len = 3 := eq_of_beq hl
    simp only [Fi] at h
    split at h
    · rename_i c0 ec
      obtain ⟨hc6, hsh, hn2, hn1, h⟩ := h
      obtain ⟨hw, -⟩ := mck_ok ec
      intro H locs lsA hr
      have t1 : tt n0 ≤ tt n := tt_mono hr.1
      have t2 : tt (n + 1) ≤ tt nm := tt_mono hn1
      have t3 : tt (n + 1) = tt n + (shp n).2 := rfl
      have h00 := hr.1
      have hs2 : (shp n).2 = mnf c0 := by rw [hsh]
      refine va_new (D := D) (ci := c0) (fs := (List.range (mnf c0)).map (fun k => vmp (adf base b t) (vdf (mtyp c0 k)))) (C := mcn c0) (T := mT c0) (N := mnf c0) hx hb hts (mLY hc6) (mtyp c0) (mtyp_ok hc6) hown (hts _ hw) (hts _ (mIN hc6)) (hts _ (mIT hc6)) hK hr.2.2.1 mwl_D hr.2.2.2.1 (fun q hq => by show base ≤ q; omega) (mcl_at hc6) (fun j hj => by rw [defv (ad := adf base b t) hc6 hj]; simp [vp_V, hj]) (by omega) (by omega) hdg (fun q H1 hP1 hD1 hS1 => ?_)
      refine mW_le (N := n + 1) hsz (by omega) (by omega) (fun hz => ?_)
      have hq := mnew_at hP1 hD1 hz
      subst hq
      rw [mwl_push (hp' := mrow hp n (fun k => vdf (mtyp c0 k))) (by rw [mel_o hsh hc6]; unfold mrows; rw [mrow_self]) (fun j hj => mel_congr (mrow_ne (by omega)))] at hP1
      have h1 := h H1 locs lsA ⟨by omega, by omega, hP1, hS1, hr.2.2.2.2⟩
      refine W.cs (cells' := n + 1 - n0) (slots' := tt (n + 1) - tt n0) (by omega) (by omega) ?_
      simp only [List.map_cons, vmp] at h1
      rw [adf_lt hn2] at h1
      exact h1
    · exact h.elim
  case newarray at_ =>
    obtain rfl : len = 2 := eq_of_beq hl
    obtain ⟨z, r, rfl, h_⟩ := popI_of h
    clear h
    have h := h_
    clear h_
    obtain ⟨z0, z1, hn2, hn1, h⟩ := h
    cases at_
    case int =>
      obtain ⟨hsh, h⟩ := h
      intro H locs lsA hr
      have t1 : tt n0 ≤ tt n := tt_mono hr.1
      have t2 : tt (n + 1) ≤ tt nm := tt_mono hn1
      have t3 : tt (n + 1) = tt n + (shp n).2 := rfl
      have h00 := hr.1
      have hs2 : (shp n).2 = z.toNatClampNeg := by rw [hsh]
      have hk1 : (shp n).1 = 16 := by rw [hsh]
      refine va_newa (D := D) (a0 := (z.toNatClampNeg, .inl (fun _ => 0))) hx hb (atype := .int) (hts _ mAC_i) rfl hK hr.2.2.1 mwl_D hr.2.2.2.1 (fun q hq => by show base ≤ q; omega) (fun _ => rfl) z0 rfl (Nat.le_trans (Nat.mul_le_mul_right _ z1) (by decide)) (by omega) (by omega) hdg (fun q cA H1 hK1 hP1 hD1 hS1 => ?_)
      have hcA : cA = dA 16 := by
        have e1 : s.vm.findClass ("[" ++ (FieldType.int).toString) = some cA := (hK1.2 4 _ rfl).2
        have e2 : s.vm.findClass ("[" ++ (FieldType.int).toString) = some (dA 16) := (hK.2 0 _ rfl).2
        exact Option.some.inj (e1.symm.trans e2)
      subst hcA
      refine mW_le (N := n + 1) hsz (by omega) (by omega) (fun hz => ?_)
      have hq := mnew_at hP1 hD1 hz
      subst hq
      rw [mwl_push (hp' := mrow hp n (fun _ => .int 0)) (by rw [mel_i hk1, hs2, mrow_self]; rfl) (fun j hj => mel_congr (mrow_ne (by omega)))] at hP1
      have h1 := h H1 locs lsA ⟨by omega, by omega, hP1, hS1, hr.2.2.2.2⟩
      refine W.cs (cells' := n + 1 - n0) (slots' := tt (n + 1) - tt n0) (by omega) (by omega) ?_
      simp only [List.map_cons, vmp] at h1
      rw [adf_lt hn2] at h1
      exact h1
    case long =>
      obtain ⟨hsh, h⟩ := h
      intro H locs lsA hr
      have t1 : tt n0 ≤ tt n := tt_mono hr.1
      have t2 : tt (n + 1) ≤ tt nm := tt_mono hn1
      have t3 : tt (n + 1) = tt n + (shp n).2 := rfl
      have h00 := hr.1
      have hs2 : (shp n).2 = z.toNatClampNeg := by rw [hsh]
      have hk1 : (shp n).1 = 17 := by rw [hsh]
      refine va_newa (D := D) (a0 := (z.toNatClampNeg, .inr (.inl (fun _ => 0)))) hx hb (atype := .long) (hts _ mAC_j) rfl hK hr.2.2.1 mwl_D hr.2.2.2.1 (fun q hq => by show base ≤ q; omega) (fun _ => rfl) z0 rfl (Nat.le_trans (Nat.mul_le_mul_right _ z1) (by decide)) (by omega) (by omega) hdg (fun q cA H1 hK1 hP1 hD1 hS1 => ?_)
      have hcA : cA = dA 17 := by
        have e1 : s.vm.findClass ("[" ++ (FieldType.long).toString) = some cA := (hK1.2 4 _ rfl).2
        have e2 : s.vm.findClass ("[" ++ (FieldType.long).toString) = some (dA 17) := (hK.2 1 _ rfl).2
        exact Option.some.inj (e1.symm.trans e2)
      subst hcA
      refine mW_le (N := n + 1) hsz (by omega) (by omega) (fun hz => ?_)
      have hq := mnew_at hP1 hD1 hz
      subst hq
      rw [mwl_push (hp' := mrow hp n (fun _ => .long 0)) (by rw [mel_j hk1, hs2, mrow_self]; rfl) (fun j hj => mel_congr (mrow_ne (by omega)))] at hP1
      have h1 := h H1 locs lsA ⟨by omega, by omega, hP1, hS1, hr.2.2.2.2⟩
      refine W.cs (cells' := n + 1 - n0) (slots' := tt (n + 1) - tt n0) (by omega) (by omega) ?_
      simp only [List.map_cons, vmp] at h1
      rw [adf_lt hn2] at h1
      exact h1
    all_goals exact h.elim
  case anewarray k0 =>
    obtain rfl : len = 3 := eq_of_beq hl
    obtain ⟨z, r, rfl, h_⟩ := popI_of h
    clear h
    have h := h_
    clear h_
    obtain ⟨z0, z1, hn2, hn1, h⟩ := h
    split at h
    · rename_i ec
      obtain ⟨hsh, h⟩ := h
      intro H locs lsA hr
      have t1 : tt n0 ≤ tt n := tt_mono hr.1
      have t2 : tt (n + 1) ≤ tt nm := tt_mono hn1
      have t3 : tt (n + 1) = tt n + (shp n).2 := rfl
      have h00 := hr.1
      have hs2 : (shp n).2 = z.toNatClampNeg := by rw [hsh]
      have hk1 : (shp n).1 = 18 := by rw [hsh]
      refine va_newq (D := D) hx hb (C := "ShadowTester$Item") hown (hts _ (mck_ok ec).1) hXw.2.1 hK hr.2.2.1 mwl_D hr.2.2.2.1 (fun q hq => by show base ≤ q; omega) z0 rfl (by omega) (by omega) (by omega) hdg (fun q cA H1 hK1 hP1 hD1 hS1 => ?_)
      have hcA : cA = dA 18 := by
        obtain ⟨kA, cm, -, -, -, e1⟩ := (hK1.2 4 _ rfl).2
        obtain ⟨kA2, cm2, -, -, -, e2⟩ := (hK.2 2 _ rfl).2
        exact Option.some.inj (e1.symm.trans e2)
      subst hcA
      refine mW_le (N := n + 1) hsz (by omega) (by omega) (fun hz => ?_)
      have hq := mnew_at hP1 hD1 hz
      subst hq
      rw [mwl_push (hp' := mrow hp n (fun _ => .null)) (by rw [mel_q hk1, hs2, mrow_self]; rfl) (fun j hj => mel_congr (mrow_ne (by omega)))] at hP1
      have h1 := h H1 locs lsA ⟨by omega, by omega, hP1, hS1, hr.2.2.2.2⟩
      refine W.cs (cells' := n + 1 - n0) (slots' := tt (n + 1) - tt n0) (by omega) (by omega) ?_
      simp only [List.map_cons, vmp] at h1
      rw [adf_lt hn2] at h1
      exact h1
    · rename_i ec
      obtain ⟨hsh, h⟩ := h
      intro H locs lsA hr
      have t1 : tt n0 ≤ tt n := tt_mono hr.1
      have t2 : tt (n + 1) ≤ tt nm := tt_mono hn1
      have t3 : tt (n + 1) = tt n + (shp n).2 := rfl
      have h00 := hr.1
      have hs2 : (shp n).2 = z.toNatClampNeg := by rw [hsh]
      have hk1 : (shp n).1 = 19 := by rw [hsh]
      refine va_newq (D := D) hx hb (C := "ShadowTester$Sheet") hown (hts _ (mck_ok ec).1) hXw.2.2 hK hr.2.2.1 mwl_D hr.2.2.2.1 (fun q hq => by show base ≤ q; omega) z0 rfl (by omega) (by omega) (by omega) hdg (fun q cA H1 hK1 hP1 hD1 hS1 => ?_)
      have hcA : cA = dA 19 := by
        obtain ⟨kA, cm, -, -, -, e1⟩ := (hK1.2 4 _ rfl).2
        obtain ⟨kA2, cm2, -, -, -, e2⟩ := (hK.2 3 _ rfl).2
        exact Option.some.inj (e1.symm.trans e2)
      subst hcA
      refine mW_le (N := n + 1) hsz (by omega) (by omega) (fun hz => ?_)
      have hq := mnew_at hP1 hD1 hz
      subst hq
      rw [mwl_push (hp' := mrow hp n (fun _ => .null)) (by rw [mel_h hk1, hs2, mrow_self]; rfl) (fun j hj => mel_congr (mrow_ne (by omega)))] at hP1
      have h1 := h H1 locs lsA ⟨by omega, by omega, hP1, hS1, hr.2.2.2.2⟩
      refine W.cs (cells' := n + 1 - n0) (slots' := tt (n + 1) - tt n0) (by omega) (by omega) ?_
      simp only [List.map_cons, vmp] at h1
      rw [adf_lt hn2] at h1
      exact h1
    · exact h.elim
  case invokevirtual k0 =>
    obtain rfl : len = 3 := eq_of_beq hl
    simp only [Fi] at h
    split at h
    · rename_i j ej
      obtain ⟨hstt, hni, hna, h⟩ := h
      obtain ⟨b0, rest, eb, hb0, hsh, hc6, h_⟩ := popA_of h
      clear h
      have h := h_
      clear h_
      intro H locs lsA hr
      obtain ⟨hroom, hN, hmok, hCj⟩ := h
      have hw := mW_ok hmok
      obtain ⟨w1, w2, w3, w4, w5, w6, w7, w8, w9⟩ := hw
      have hM := hC _ _ _ _ _ hCj D dA base b t
      have h00 := hr.1
      have hn := hr.2.1
      have t1 : tt n0 ≤ tt n := tt_mono h00
      have t2 : tt (n + mgr j) ≤ tt nm := tt_mono hN
      have t3 : tt n ≤ tt (n + mgr j) := tt_mono (Nat.le_add_right _ _)
      refine mW_size (N := n) hsz h00 rfl (mP_size hr.2.2.1 (by have := hr.2.2.2.1.1; omega) h00) (fun hz => ?_)
      have hroom2 := mroomy (ad := adf base b t) hroom
      rw [hstt, if_neg (by decide)] at w2
      refine mcall_go (rest := rest) (a := (Value.ref (adf base b t b0) :: (st.take (mna j)).reverse.map (vmp (adf base b t))).toArray) fx0 (fun _ _ _ _ _ h9 => h9) hr hN hnm ?_
      have hcell := va_recv (q0 := b0) hK hr.2.2.1 (mcl_at hc6) ((mwl_get hb0).trans (by rw [mel_o hsh hc6]))
      refine va_runV (As := (st.take (mna j)).reverse.map (vmp (adf base b t))) (b := adf base b t b0) ⟨hx, hb, hml, hown, hts⟩ hM (cwV (C := mcn (moi j)) (mna j) hts (goodIn_gws (fun w hw => ?_)) rfl rfl rfl ⟨w5, w7.1, w7.2, w8⟩ ⟨by show d + 1 ≤ R.frames; omega, by show 8 + (mml j + 11) + 33 * d ≤ R.locals; omega⟩) ⟨mblind, ?_, fun U hU hW => ⟨by simp [vmp], mWd_call hst hn hr.2.2.1 hr.2.2.2.1 hz hU hW⟩⟩ rfl (by simp; omega) hr.2.2.2.2.1.1 ?_ (lv_room hroom2) hdg ⟨by omega, by omega⟩
      · rcases List.mem_append.mp hw with hw | hw
        · simp only [List.mem_cons, List.not_mem_nil, or_false] at hw
          rcases hw with rfl | rfl | rfl | rfl
          · exact mlk_good ej rfl rfl
          · exact gws_of w2 rfl
          · exact gws_of (w3 hstt hni) rfl
          · exact gws_of w4 rfl
        · exact mws_in hmok w hw
      · rw [adf_lt (by omega)]; exact hcell
      · show st.map (vmp (adf base b t)) = _
        have e5 := congrArg (List.map (vmp (adf base b t))) (mst_split eb)
        rw [List.map_append, List.map_cons] at e5
        rw [List.map_reverse, List.reverse_reverse]
        exact e5
    · exact h.elim
  case invokestatic k0 =>
    obtain rfl : len = 3 := eq_of_beq hl
    simp only [Fi] at h
    split at h
    · rename_i j ej
      obtain ⟨hstt, hna, h⟩ := h
      intro H locs lsA hr
      obtain ⟨hroom, hN, hmok, hCj⟩ := h
      have hw := mW_ok hmok
      obtain ⟨w1, w2, w3, w4, w5, w6, w7, w8, w9⟩ := hw
      have hM := hC _ _ _ _ _ hCj D dA base b t
      have h00 := hr.1
      have hn := hr.2.1
      have t1 : tt n0 ≤ tt n := tt_mono h00
      have t2 : tt (n + mgr j) ≤ tt nm := tt_mono hN
      have t3 : tt n ≤ tt (n + mgr j) := tt_mono (Nat.le_add_right _ _)
      refine mW_size (N := n) hsz h00 rfl (mP_size hr.2.2.1 (by have := hr.2.2.2.1.1; omega) h00) (fun hz => ?_)
      have hroom2 := mroomy (ad := adf base b t) hroom
      rw [hstt, if_pos rfl] at w2
      refine mcall_go (rest := st.drop (mna j)) (a := ((st.take (mna j)).reverse.map (vmp (adf base b t))).toArray) fx0 (fun _ _ _ _ _ h9 => h9) hr hN hnm ?_
      refine va_runS (As := (st.take (mna j)).reverse.map (vmp (adf base b t))) ⟨hx, hb, hml, hown, hts⟩ hM (va_cwS (mna j) hts (goodIn_gws (fun w hw => ?_)) rfl rfl rfl ⟨w7.1, w7.2, w8⟩ ⟨by show d + 1 ≤ R.frames; omega, by show 8 + (mml j + 11) + 33 * d ≤ R.locals; omega⟩) ⟨mblind, fun U hU hW => ⟨by simp, mWd_call hst hn hr.2.2.1 hr.2.2.2.1 hz hU hW⟩⟩ rfl (by simp; omega) hr.2.2.2.2.1.1 ?_ (lv_room hroom2) hdg ⟨by omega, by omega⟩
      · rcases List.mem_append.mp hw with hw | hw
        · simp only [List.mem_cons, List.not_mem_nil, or_false] at hw
          rcases hw with rfl | rfl | rfl
          · exact mlk_good ej rfl rfl
          · exact gws_of w2 rfl
          · rw [w5]; exact gws_of w4 rfl
        · exact mws_in hmok w hw
      · show st.map (vmp (adf base b t)) = _
        simp only [List.map_reverse, List.reverse_reverse, ← List.map_append, List.take_append_drop]
    · rename_i j ej
      obtain ⟨hstt, hna, h⟩ := h
      intro H locs lsA hr
      obtain ⟨hroom, hN, hmok, hCj⟩ := h
      have hw := mW_ok hmok
      obtain ⟨w1, w2, w3, w4, w5, w6, w7, w8, w9⟩ := hw
      have hM := hC _ _ _ _ _ hCj D dA base b t
      have h00 := hr.1
      have hn := hr.2.1
      have t1 : tt n0 ≤ tt n := tt_mono h00
      have t2 : tt (n + mgr j) ≤ tt nm := tt_mono hN
      have t3 : tt n ≤ tt (n + mgr j) := tt_mono (Nat.le_add_right _ _)
      refine mW_size (N := n) hsz h00 rfl (mP_size hr.2.2.1 (by have := hr.2.2.2.1.1; omega) h00) (fun hz => ?_)
      have hroom2 := mroomy (ad := adf base b t) hroom
      rw [hstt, if_pos rfl] at w2
      refine mcall_go (rest := st.drop (mna j)) (a := ((st.take (mna j)).reverse.map (vmp (adf base b t))).toArray) fx0 (fun _ _ _ _ _ h9 => h9) hr hN hnm ?_
      refine va_runSN (host := "ShadowTester") (As := (st.take (mna j)).reverse.map (vmp (adf base b t))) ⟨hx, hb, hml, hown, hts⟩ hM ⟨va_cnB (mna j) hts (goodIn_gws (mws_in hmok)) rfl rfl rfl ?_ (by rw [w5]; exact hts _ (gws_of w4 rfl)) ⟨w7.1, w7.2, w8⟩ ⟨by show d + 1 ≤ R.frames; omega, by show 8 + (mml j + 11) + 33 * d ≤ R.locals; omega⟩, hts _ (gws_of w2 rfl), trivial⟩ ⟨mblind, fun U hU hW => ⟨by simp, mWd_call hst hn hr.2.2.1 hr.2.2.2.1 hz hU hW⟩⟩ rfl (by simp; omega) hr.2.2.2.2.1.1 ?_ (lv_room hroom2) hdg ⟨by omega, by omega⟩
      · obtain ⟨zz, z1, z2, z3, z4, z5, -⟩ := mlk_ok ej
        have := hXw.1 zz z1 (Or.inl z4)
        rw [z2, z3, z5] at this
        exact this
      · show st.map (vmp (adf base b t)) = _
        simp only [List.map_reverse, List.reverse_reverse, ← List.map_append, List.take_append_drop]
    · obtain ⟨z, r, rfl, h_⟩ := popI_of h
      clear h
      have h := h_
      clear h_
      obtain ⟨dp, r, rfl, h_⟩ := popI_of h
      clear h
      have h := h_
      clear h_
      obtain ⟨a, r, rfl, h_⟩ := popA_of h
      clear h
      have h := h_
      clear h_
      obtain ⟨sp, r, rfl, h_⟩ := popI_of h
      clear h
      have h := h_
      clear h_
      obtain ⟨a0, r, rfl, h_⟩ := popA_of h
      clear h
      have h := h_
      clear h_
      obtain ⟨hroom, ha, ha0, hk, h1, h2, h3, h4, h5, h⟩ := h
      rename_i ej
      intro H locs lsA hr
      have hn := hr.2.1
      have hroom2 := mroomy (ad := adf base b t) hroom
      have hnf : nativeFrameWords "java/lang/System" "arraycopy" 5 = 7 := by decide
      show W p l e R s m args below meth c H locs (n - n0) (tt n - tt n0) Qw (F0 m pc lsA (.int z :: .int dp :: .ref (adf base b t a) :: .int sp :: .ref (adf base b t a0) :: r.map (vmp (adf base b t))))
      rw [adf_lt (by omega), adf_lt (by omega)]
      rcases hk with ⟨hk, hk0⟩ | ⟨hk, hk0⟩
      · have es : (mwl (adf base b t) dA hp base n).set a (base + a, .inl (dA 16, (shp a).2, .inl (va_cpy (fun j => vI (hp a0 j)) (fun j => vI (hp a j)) sp.toNatClampNeg dp.toNatClampNeg z.toNatClampNeg))) = mwl (adf base b t) dA (mcpy hp a a0 sp.toNatClampNeg dp.toNatClampNeg z.toNatClampNeg) base n := mwl_set ha (by rw [mel_i hk]; unfold mcpy; rw [mrow_self]; congr 3; congr 1; funext j; unfold va_cpy; split <;> rfl) (fun j hj => mel_congr (mrow_ne hj))
        refine va_copyi (D := D) (ty := .int) hx hb (hml.trans hr.2.2.2.2.1.1.symm) hown (hts _ (mlk_good ej rfl rfl)) (hts _ mSY1) (hts _ mSY2) (hts _ mSY3) hK hr.2.2.1 mwl_D hr.2.2.2.1 a0 a 0 0 ((mwl_get ha0).trans (by rw [mel_i hk0])) ((mwl_get ha).trans (by rw [mel_i hk])) rfl rfl rfl h1 h2 h3 h4 h5 (fun _ _ => rfl) (by omega) (by rw [hnf]; omega) hdg (fun H1 locs1 hP1 _ hS1 => ?_)
        rw [es] at hP1
        exact h H1 locs1 lsA (hr.hp hP1 hS1)
      · have es : (mwl (adf base b t) dA hp base n).set a (base + a, .inl (dA 17, (shp a).2, .inr (.inl (va_cpy (fun j => vJ (hp a0 j)) (fun j => vJ (hp a j)) sp.toNatClampNeg dp.toNatClampNeg z.toNatClampNeg)))) = mwl (adf base b t) dA (mcpy hp a a0 sp.toNatClampNeg dp.toNatClampNeg z.toNatClampNeg) base n := mwl_set ha (by rw [mel_j hk]; unfold mcpy; rw [mrow_self]; congr 3; congr 1; congr 1; funext j; unfold va_cpy; split <;> rfl) (fun j hj => mel_congr (mrow_ne hj))
        refine va_copyl (D := D) (ty := .long) hx hb (hml.trans hr.2.2.2.2.1.1.symm) hown (hts _ (mlk_good ej rfl rfl)) (hts _ mSY1) (hts _ mSY2) (hts _ mSY3) hK hr.2.2.1 mwl_D hr.2.2.2.1 a0 a 1 1 ((mwl_get ha0).trans (by rw [mel_j hk0])) ((mwl_get ha).trans (by rw [mel_j hk])) rfl rfl rfl h1 h2 h3 h4 h5 (fun _ _ => rfl) (by omega) (by rw [hnf]; omega) hdg (fun H1 locs1 hP1 _ hS1 => ?_)
        rw [es] at hP1
        exact h H1 locs1 lsA (hr.hp hP1 hS1)
    · obtain ⟨a, r, rfl, h_⟩ := popI_of h
      clear h
      have h := h_
      clear h_
      obtain ⟨a2, r, rfl, h_⟩ := popI_of h
      clear h
      have h := h_
      clear h_
      obtain ⟨hroom, hN, h⟩ := h
      rename_i ej
      intro H locs lsA hr
      have hroom2 := mroomy (ad := adf base b t) hroom
      have t1 : tt n ≤ tt nm := tt_mono hN
      have h00 := hr.1
      exact va_mmax hx hb (hml.trans hr.2.2.2.2.1.1.symm) hown (hts _ (mlk_good ej rfl rfl)) (hts _ mMA_max1) (hts _ mMA_i) (hts _ mMA_max2) (by omega) (by omega) (by omega) (by omega) hdg (h H locs lsA hr)
    · obtain ⟨a, r, rfl, h_⟩ := popI_of h
      clear h
      have h := h_
      clear h_
      obtain ⟨a2, r, rfl, h_⟩ := popI_of h
      clear h
      have h := h_
      clear h_
      obtain ⟨hroom, hN, h⟩ := h
      rename_i ej
      intro H locs lsA hr
      have hroom2 := mroomy (ad := adf base b t) hroom
      have t1 : tt n ≤ tt nm := tt_mono hN
      have h00 := hr.1
      exact va_mmin hx hb (hml.trans hr.2.2.2.2.1.1.symm) hown (hts _ (mlk_good ej rfl rfl)) (hts _ mMA_min1) (hts _ mMA_i) (hts _ mMA_min2) (by omega) (by omega) (by omega) (by omega) hdg (h H locs lsA hr)
    · obtain ⟨a, r, rfl, h_⟩ := popI_of h
      clear h
      have h := h_
      clear h_
      obtain ⟨hroom, hN, h⟩ := h
      rename_i ej
      intro H locs lsA hr
      have hroom2 := mroomy (ad := adf base b t) hroom
      have t1 : tt n ≤ tt nm := tt_mono hN
      have h00 := hr.1
      exact va_mabs hx hb (hml.trans hr.2.2.2.2.1.1.symm) hown (hts _ (mlk_good ej rfl rfl)) (hts _ mMA_abs1) (hts _ mMA_i) (hts _ mMA_abs2) (by omega) (by omega) (by omega) (by omega) hdg (h H locs lsA hr)
    · exact h.elim
  case invokespecial k0 =>
    obtain rfl : len = 3 := eq_of_beq hl
    simp only [Fi] at h
    split at h
    · rename_i j ej
      obtain ⟨hstt, hrt, hni, hna, h⟩ := h
      obtain ⟨b0, rest, eb, hb0, h_⟩ := popA_of h
      clear h
      have h := h_
      clear h_
      intro H locs lsA hr
      obtain ⟨hroom, hN, hmok, hCj⟩ := h
      have hw := mW_ok hmok
      obtain ⟨w1, w2, w3, w4, w5, w6, w7, w8, w9⟩ := hw
      have hM := hC _ _ _ _ _ hCj D dA base b t
      have h00 := hr.1
      have hn := hr.2.1
      have t1 : tt n0 ≤ tt n := tt_mono h00
      have t2 : tt (n + mgr j) ≤ tt nm := tt_mono hN
      have t3 : tt n ≤ tt (n + mgr j) := tt_mono (Nat.le_add_right _ _)
      refine mW_size (N := n) hsz h00 rfl (mP_size hr.2.2.1 (by have := hr.2.2.2.1.1; omega) h00) (fun hz => ?_)
      have hroom2 := mroomy (ad := adf base b t) hroom
      rw [hstt, if_neg (by decide)] at w2
      refine mcall_go (rest := rest) (a := (Value.ref (adf base b t b0) :: (st.take (mna j)).reverse.map (vmp (adf base b t))).toArray) fx0 (fun _ _ _ _ _ h9 => h9) hr hN hnm ?_
      refine va_runI (bytes := mby j) (maxL := mml j) (As := (st.take (mna j)).reverse.map (vmp (adf base b t))) (b := adf base b t b0) ⟨hx, hb, hml, hown, hts⟩ hM (cwI (mna j) hts (goodIn_gws (mws_in hmok)) (by unfold mws; rw [hrt]) rfl rfl (by rw [w5]; exact hts _ (gws_of w4 rfl)) (hts _ (mlk_good ej rfl rfl)) (hts _ (gws_of w2 rfl)) hni ⟨w7.1, w7.2, w8⟩ ⟨by show d + 1 ≤ R.frames; omega, by show 8 + (mml j + 11) + 33 * d ≤ R.locals; omega⟩) ⟨mblind, fun U hU hW => ⟨by simp [vmp], mWd_call hst hn hr.2.2.1 hr.2.2.2.1 hz hU hW⟩⟩ rfl (by simp; omega) hr.2.2.2.2.1.1 ?_ (lv_room hroom2) hdg ⟨by omega, by omega⟩
      · show st.map (vmp (adf base b t)) = _
        have e5 := congrArg (List.map (vmp (adf base b t))) (mst_split eb)
        rw [List.map_append, List.map_cons] at e5
        rw [List.map_reverse, List.reverse_reverse]
        exact e5
    · rename_i j ej
      obtain ⟨hstt, hrt, hni, hna, h⟩ := h
      obtain ⟨b0, rest, eb, hb0, h_⟩ := popA_of h
      clear h
      have h := h_
      clear h_
      intro H locs lsA hr
      obtain ⟨hroom, hN, hmok, hCj⟩ := h
      have hw := mW_ok hmok
      obtain ⟨w1, w2, w3, w4, w5, w6, w7, w8, w9⟩ := hw
      have hM := hC _ _ _ _ _ hCj D dA base b t
      have h00 := hr.1
      have hn := hr.2.1
      have t1 : tt n0 ≤ tt n := tt_mono h00
      have t2 : tt (n + mgr j) ≤ tt nm := tt_mono hN
      have t3 : tt n ≤ tt (n + mgr j) := tt_mono (Nat.le_add_right _ _)
      refine mW_size (N := n) hsz h00 rfl (mP_size hr.2.2.1 (by have := hr.2.2.2.1.1; omega) h00) (fun hz => ?_)
      have hroom2 := mroomy (ad := adf base b t) hroom
      rw [hstt, if_neg (by decide)] at w2
      refine mcall_go (rest := rest) (a := (Value.ref (adf base b t b0) :: (st.take (mna j)).reverse.map (vmp (adf base b t))).toArray) fx0 (fun _ _ _ _ _ h9 => h9) hr hN hnm ?_
      refine va_runIN (host := "ShadowTester") (bytes := mby j) (maxL := mml j) (As := (st.take (mna j)).reverse.map (vmp (adf base b t))) (b := adf base b t b0) ⟨hx, hb, hml, hown, hts⟩ hM (⟨va_cnB (ret := none) (mna j) hts (goodIn_gws (mws_in hmok)) (by unfold mws; rw [hrt]) rfl rfl ?_ (by rw [w5]; exact hts _ (gws_of w4 rfl)) ⟨w7.1, w7.2, w8⟩ ⟨by show d + 1 ≤ R.frames; omega, by show 8 + (mml j + 11) + 33 * d ≤ R.locals; omega⟩, hni, hts _ (gws_of w2 rfl)⟩) ⟨mblind, fun U hU hW => ⟨by simp [vmp], mWd_call hst hn hr.2.2.1 hr.2.2.2.1 hz hU hW⟩⟩ rfl (by simp; omega) hr.2.2.2.2.1.1 ?_ (lv_room hroom2) hdg ⟨by omega, by omega⟩
      · obtain ⟨zz, z1, z2, z3, z4, z5, -⟩ := mlk_ok ej
        have := hXw.1 zz z1 (Or.inr z4)
        rw [z2, z3, z5] at this
        exact this
      · show st.map (vmp (adf base b t)) = _
        have e5 := congrArg (List.map (vmp (adf base b t))) (mst_split eb)
        rw [List.map_append, List.map_cons] at e5
        rw [List.map_reverse, List.reverse_reverse]
        exact e5
    · obtain ⟨q, r, rfl, hroom, h_⟩ := popA_of h
      clear h
      have h := h_
      clear h_
      rename_i ej
      intro H locs lsA hr
      have hroom2 := mroomy (ad := adf base b t) hroom
      exact W.objInit hx hb hown (hts _ (mlk_good ej rfl rfl)) (hts _ mOB1) (hts _ mOB2) rfl (hr.2.2.2.2.1.1.trans hml.symm) rfl hdg (by omega) (by have := lv_room (m := m) (pc := pc) (ls := lsA) (rest := []) hroom2; show 2 * 0 + _ + 12 ≤ _; omega) (h H locs lsA hr)
    · exact h.elim
  case ireturn =>
    obtain rfl : len = 1 := eq_of_beq hl
    simp only [Fi] at h
    split at h
    · obtain ⟨h1, h2, h3⟩ := h
      subst h2
      intro H locs lsA hr
      exact (hRet hp H locs lsA pc hr.2.2.1 hr.2.2.2.1 hr.1).1 _ hdg h1 h3
    · exact h.elim
  case lreturn =>
    obtain rfl : len = 1 := eq_of_beq hl
    simp only [Fi] at h
    split at h
    · obtain ⟨h1, h2, h3⟩ := h
      subst h2
      intro H locs lsA hr
      exact (hRet hp H locs lsA pc hr.2.2.1 hr.2.2.2.1 hr.1).2.1 _ hdg h1 h3
    · exact h.elim
  case return_ =>
    obtain rfl : len = 1 := eq_of_beq hl
    simp only [Fi] at h
    split at h
    · obtain ⟨h1, h2, h3⟩ := h
      subst h2
      intro H locs lsA hr
      exact (hRet hp H locs lsA pc hr.2.2.1 hr.2.2.2.1 hr.1).2.2 hdg h1 h3
    · exact h.elim
  all_goals exact h.elim
end FOLLOWS
