/-! THE REAL MACHINE FOLLOWS THE SMALL ONE -/
/-- words that stay, but no row of the tables' kind -/
def mXw (U : State) : Prop := (∀ e ∈ mML, (e.2.2.1 = 4 ∨ e.2.2.1 = 5) → va_Nw (.methodLinkNest (mcn e.1) e.2.1 (mmn e.2.2.2.1) "ShadowTester") U) ∧ va_AO "ShadowTester$Item" U ∧ va_AO "ShadowTester$Sheet" U
theorem mXw.warm {s U : State} (hW : s.WarmedH U.vm) (h : mXw s) : mXw U := ⟨fun e he hk => va_Nw.warmM hW (h.1 e he hk), va_AO.moved hW.alike h.2.1, va_AO.moved hW.alike h.2.2⟩
theorem mXw.same {s U : State} (hv : s.vm = U.vm) (h : mXw s) : mXw U := ⟨fun e he hk => va_Nw.same rfl hv (h.1 e he hk), va_AO.moved (by rw [hv]; exact Vm.Alike.refl _) h.2.1, va_AO.moved (by rw [hv]; exact Vm.Alike.refl _) h.2.2⟩
/-- what stands of the machine at a method's start: D, dA the tables' numbers, base where the objects begin, t the static row -/
def mSt (D : va_G) (dA : Nat → ClassId) (base t : Nat) (U : State) : Prop :=
  va_K D mcl (mtys dA) U ∧ va_Z "ShadowTester$Item" "ABOVE" "[I" (.ref t) (fun a => base ≤ a) U U.heap ∧ va_T .int t 6 (fun j => .int (abv j)) (fun a => base ≤ a) U U.heap ∧ mXw U
def mWd (D : va_G) (dA : Nat → ClassId) (base b t : Nat) (hp : mH) (n : Nat) (U : State) : Prop :=
  U.heap.size = base + n ∧ n ≤ 1000 ∧ va_P D mcl (mwl (adf base b t) dA hp base n) U.heap ∧ mSt D dA base t U
def mrm (d g s : Nat) : Room := { frames := d, cells := g, slots := s, locals := 33 * d }
def mws (j : Nat) : List Cond := .code (mmn j) (mby j) (mml j) (mrt j) :: gws
def mQo (D : va_G) (dA : Nat → ClassId) (base b t : Nat) (Q : Option Value → mH → Prop) (n : Nat) : Array Value → State → Outcome → State → Prop := fun _ st oc u =>
  (∃ (v : Option Value) (hp : mH), oc = .returned v ∧ v.map (vmp (adf base b t)) = v ∧ Q v hp ∧ va_P D mcl (mwl (adf base b t) dA hp base n) u.heap) ∧ va_F (fun a => base ≤ a) st u
/-- a method's contract out of the small machine -/
def mCt (l : Launch) (d j : Nat) (as : List Value) (hp : mH) (n : Nat) (Q : Option Value → mH → Prop) : Prop :=
  ∀ (D : va_G) (dA : Nat → ClassId) (base b t : Nat), Met l (mmn j) (mws j) (mrm d (mgr j) (tt (n + mgr j) - tt n)) (va_Pc (as.map (vmp (adf base b t))) (mWd D dA base b t hp n)) (mQo D dA base b t Q (n + mgr j)) (mgr j) (tt (n + mgr j) - tt n) (fun a => base ≤ a)
section FOLLOW
variable {p : Program} {l : Launch} {e : Env} {R : Room} {s : State} {m : MethodId} {args : Array Value} {below : List Frame} {meth : Method} {c : Code} {Qw : State → Prop}
variable {D : va_G} {dA : Nat → ClassId} {base b t y n0 nm d : Nat}
/-- the frame's facts -/
def mFx (p : Program) (R : Room) (s : State) (m : MethodId) (args : Array Value) (meth : Method) (c : Code) (D : va_G) (dA : Nat → ClassId) (base t y n0 nm d : Nat) : Prop :=
  p.tables.exec = Jvm.exec ∧ c.code = mby y ∧ c.maxLocals = mml y ∧ s.vm.findClass (mcn (moi y)) = some m.cls ∧ (∀ w ∈ gws, w.before args s = true) ∧ mSt D dA base t s ∧ s.heap.size = base + n0 ∧ ((mmn y).name = "<init>" → meth.name = "<init>") ∧ d + 1 ≤ R.frames ∧ 33 * (d + 1) ≤ R.locals ∧ nm - n0 ≤ R.cells ∧ tt nm - tt n0 ≤ R.slots
def mRl (s : State) (D : va_G) (dA : Nat → ClassId) (base b t y n0 : Nat) (ls : List Value) (hp : mH) (n : Nat) (H : Heap) (locs : List Loc) (lsA : Array Slot) : Prop :=
  n0 ≤ n ∧ n ≤ 1000 ∧ va_P D mcl (mwl (adf base b t) dA hp base n) H ∧ va_S (fun a => base ≤ a) s.heap H locs ∧ lv_has lsA (mml y) (mlv (adf base b t) ls) ∧ ls.length = mml y
def mWR (p : Program) (l : Launch) (e : Env) (R : Room) (s : State) (m : MethodId) (args : Array Value) (below : List Frame) (meth : Method) (c : Code) (Qw : State → Prop) (D : va_G) (dA : Nat → ClassId) (base b t y n0 : Nat) : mR := fun pc ls st hp n =>
  ∀ (H : Heap) (locs : List Loc) (lsA : Array Slot), mRl s D dA base b t y n0 ls hp n H locs lsA → W p l e R s m args below meth c H locs (n - n0) (tt n - tt n0) Qw (F0 m pc lsA (st.map (vmp (adf base b t))))
theorem mW_size {H : Heap} {locs : List Loc} {cells slots N : Nat} {g : JFrame} (hs : s.heap.size = base + n0) (hN : n0 ≤ N) (hc : cells = N - n0) (hlt : base + N ≤ H.size) (k : H.size = base + N → W p l e R s m args below meth c H locs cells slots Qw g) : W p l e R s m args below meth c H locs cells slots Qw g := by
  intro T hT X
  have h1 : T.heap.size ≤ s.heap.size + cells := X.same.2.2.1
  rw [hT] at h1
  exact k (by omega) T hT X
theorem mP_size {ad : Nat → Nat} {hp : mH} {n : Nat} {H : Heap} (h : va_P D mcl (mwl ad dA hp base n) H) (h0 : base + n0 ≤ H.size) (hn : n0 ≤ n) : base + n ≤ H.size := by
  cases n with
  | zero => omega
  | succ n =>
    have := (h n _ (mwl_get (Nat.lt_succ_self n))).lt
    simp only at this
    omega
theorem mcl_at {c : Nat} (h : c < 6) : mcl[c]? = some (mcn c, mT c, mnf c) := by
  match c, h with
  | 0, _ => rfl
  | 1, _ => rfl
  | 2, _ => rfl
  | 3, _ => rfl
  | 4, _ => rfl
  | 5, _ => rfl
theorem mLY {c : Nat} (h : c < 6) : ∀ w ∈ u_ws (mcn c) (mT c) (mnf c), w ∈ gws := by
  match c, h with
  | 0, _ => exact mLY0
  | 1, _ => exact mLY1
  | 2, _ => exact mLY2
  | 3, _ => exact mLY3
  | 4, _ => exact mLY4
  | 5, _ => exact mLY5
theorem mIN {c : Nat} (h : c < 6) : Cond.instantiable (mcn c) (mnf c) ∈ gws := by
  match c, h with
  | 0, _ => exact mIN0
  | 1, _ => exact mIN1
  | 2, _ => exact mIN2
  | 3, _ => exact mIN3
  | 4, _ => exact mIN4
  | 5, _ => exact mIN5
theorem mIT {c : Nat} (h : c < 6) : Cond.initialized (mcn c) ∈ gws := by
  match c, h with
  | 0, _ => exact mIT0
  | 1, _ => exact mIT1
  | 2, _ => exact mIT2
  | 3, _ => exact mIT3
  | 4, _ => exact mIT4
  | 5, _ => exact mIT5
theorem mtyp_ok {c : Nat} (h : c < 6) : ∀ k, k < mnf c → parseFieldDescriptor (mT c k).2.2.1 = some (mtyp c k) := by
  match c, h with
  | 0, _ => exact mty0_ok
  | 1, _ => exact mty1_ok
  | 2, _ => exact mty2_ok
  | 3, _ => exact mty3_ok
  | 4, _ => exact mty4_ok
  | 5, _ => exact mty5_ok
theorem mnm_ok {c : Nat} (h : c < 6) : ∀ a, a < mnf c → ∀ b, b < mnf c → a ≠ b → (mT c a).2.1 ≠ (mT c b).2.1 := by
  match c, h with
  | 0, _ => exact mnm0
  | 1, _ => exact mnm1
  | 2, _ => exact mnm2
  | 3, _ => exact mnm3
  | 4, _ => exact mnm4
  | 5, _ => exact mnm5
theorem mdecl_ok {c : Nat} (h : c < 6) : ∀ k, k < mnf c → (mT c k).1 = mcn c := by
  match c, h with
  | 0, _ => decide +kernel
  | 1, _ => decide +kernel
  | 2, _ => decide +kernel
  | 3, _ => decide +kernel
  | 4, _ => decide +kernel
  | 5, _ => decide +kernel
theorem mfk_ok {o i c k : Nat} (h : mfk o i = some (c, k)) : Cond.fieldLink (mcn o) i (mT c k).1 (mT c k).2.1 (mT c k).2.2.1 ∈ gws ∧ c < 6 ∧ k < mnf c := by
  unfold mfk mfl at h
  cases hf : mFL.find? (fun e => e.1 == o && e.2.1 == i) with
  | none => rw [hf] at h; cases h
  | some z =>
    rw [hf] at h
    have h1 := mFL_ok z (List.mem_of_find?_eq_some hf)
    have h2 := List.find?_some hf
    simp only [Bool.and_eq_true, beq_iff_eq] at h2
    obtain ⟨z1, z2, z3, z4, z5⟩ := z
    simp only [Option.map_some, Option.some.injEq, Prod.mk.injEq] at h
    simp only at h2
    obtain ⟨rfl, rfl⟩ := h
    obtain ⟨rfl, rfl⟩ := h2
    exact ⟨gws_of h1.1 rfl, h1.2.1, h1.2.2⟩
theorem mlk_ok {o i k j : Nat} (h : mlk o i = some (k, j)) : ∃ z, z ∈ mML ∧ z.1 = o ∧ z.2.1 = i ∧ z.2.2.1 = k ∧ z.2.2.2.1 = j ∧ mlw o i k j ∈ lw_tbl := by
  unfold mlk mml_ at h
  cases hf : mML.find? (fun e => e.1 == o && e.2.1 == i) with
  | none => rw [hf] at h; cases h
  | some z =>
    rw [hf] at h
    have h1 := mML_ok z (List.mem_of_find?_eq_some hf)
    have h2 := List.find?_some hf
    simp only [Bool.and_eq_true, beq_iff_eq] at h2
    obtain ⟨z1, z2, z3, z4, z5⟩ := z
    simp only [Option.map_some, Option.some.injEq, Prod.mk.injEq] at h
    simp only at h2
    obtain ⟨rfl, rfl⟩ := h
    obtain ⟨rfl, rfl⟩ := h2
    exact ⟨_, List.mem_of_find?_eq_some hf, rfl, rfl, rfl, rfl, List.mem_of_getElem? h1.1⟩
theorem mlk_good {o i k j : Nat} {w : Cond} (h : mlk o i = some (k, j)) (hw : mlw o i k j = w) (hg : goodWord w = true) : w ∈ gws := by
  obtain ⟨z, -, -, -, -, -, h6⟩ := mlk_ok h
  rw [hw] at h6
  exact List.mem_filter.mpr ⟨h6, hg⟩
theorem mki_ok {o i : Nat} {v : Int32} (h : mki o i = some v) : Cond.constant (mcn o) i v ∈ gws := by
  unfold mki at h
  cases hf : mKI.find? (fun e => e.1 == o && e.2.1 == i) with
  | none => rw [hf] at h; cases h
  | some z =>
    rw [hf] at h
    have h1 := mKI_ok z (List.mem_of_find?_eq_some hf)
    have h2 := List.find?_some hf
    simp only [Bool.and_eq_true, beq_iff_eq] at h2
    obtain ⟨z1, z2, z3, z4⟩ := z
    simp only [Option.map_some, Option.some.injEq] at h
    simp only at h2
    subst h
    obtain ⟨rfl, rfl⟩ := h2
    exact gws_of h1 rfl
theorem mkj_ok {o i : Nat} {v : Int64} (h : mkj o i = some v) : Cond.constantLong (mcn o) i v ∈ gws := by
  unfold mkj at h
  cases hf : mKJ.find? (fun e => e.1 == o && e.2.1 == i) with
  | none => rw [hf] at h; cases h
  | some z =>
    rw [hf] at h
    have h1 := mKJ_ok z (List.mem_of_find?_eq_some hf)
    have h2 := List.find?_some hf
    simp only [Bool.and_eq_true, beq_iff_eq] at h2
    obtain ⟨z1, z2, z3, z4⟩ := z
    simp only [Option.map_some, Option.some.injEq] at h
    simp only at h2
    subst h
    obtain ⟨rfl, rfl⟩ := h2
    exact gws_of h1 rfl
theorem mck_ok {o i k : Nat} (h : mck o i = some k) : Cond.classLink (mcn o) i (mcn k) ∈ gws ∧ k < 6 := by
  unfold mck at h
  cases hf : mCL.find? (fun e => e.1 == o && e.2.1 == i) with
  | none => rw [hf] at h; cases h
  | some z =>
    rw [hf] at h
    have h1 := mCL_ok z (List.mem_of_find?_eq_some hf)
    have h2 := List.find?_some hf
    simp only [Bool.and_eq_true, beq_iff_eq] at h2
    obtain ⟨z1, z2, z3, z4⟩ := z
    simp only [Option.map_some, Option.some.injEq] at h
    simp only at h2
    subst h
    obtain ⟨rfl, rfl⟩ := h2
    exact ⟨gws_of h1.1 rfl, h1.2⟩
theorem mRl.ls {ls ls' : List Value} {hp : mH} {n : Nat} {H : Heap} {locs : List Loc} {lsA lsA' : Array Slot} (h : mRl s D dA base b t y n0 ls hp n H locs lsA) (h1 : lv_has lsA' (mml y) (mlv (adf base b t) ls')) (h2 : ls'.length = ls.length) : mRl s D dA base b t y n0 ls' hp n H locs lsA' := ⟨h.1, h.2.1, h.2.2.1, h.2.2.2.1, h1, h2.trans h.2.2.2.2.2⟩
theorem mRl.hp {ls : List Value} {hp hp' : mH} {n : Nat} {H H1 : Heap} {locs locs1 : List Loc} {lsA : Array Slot} (h : mRl s D dA base b t y n0 ls hp n H locs lsA) (h1 : va_P D mcl (mwl (adf base b t) dA hp' base n) H1) (h2 : va_S (fun a => base ≤ a) s.heap H1 locs1) : mRl s D dA base b t y n0 ls hp' n H1 locs1 lsA := ⟨h.1, h.2.1, h1, h2, h.2.2.2.2.1, h.2.2.2.2.2⟩
theorem vok_fits {ty : FieldType} {v : Value} {ad : Nat → Nat} (h : vok ty v) : narrow ty (vmp ad v) = vmp ad v ∧ fits ty (vmp ad v) = true := by
  cases ty <;> cases v <;> first | exact h.elim | exact ⟨rfl, rfl⟩ | skip
  rcases h with rfl | rfl <;> exact ⟨rfl, rfl⟩
end FOLLOW
