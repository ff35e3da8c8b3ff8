/-! THE CLAIM OUT OF ONE WALK OF THE LAW'S BODY. Your part is whole_start (and what it stands on); all else here is the same for every law, but numbers. -/
def R_law : String := "ShadowTesterLaw"
def lw_P (b : Addr) (xs : List Int32) (args : Array Value) (s : State) : Prop := args = #[.ref b] ∧ s.IntsAt b xs ∧ xs.length ≤ 3072 ∧ (Jvm.Cond.and given_1 narrow_1).before args s = true
def lw_Q (_ : Array Value) (s : State) (o : Outcome) (t : State) : Prop := o = .returned (some (.int 1)) ∧ Framed s o t [] 600000 7302250
def lw_Z (below : List Frame) (a : Array Value) (s : State) : State → Prop := fun t => ∃ o, t.status = .running ∧ Ended t below o ∧ lw_Q a s o t
/-- the law's own end, with 1 on the stack, nothing written that was there before, its room as the claim has it -/
theorem lw_ret {p : Program} {l : Launch} {e : Env} {s : State} {m : MethodId} {below : List Frame} {meth : Method} {c : Code} {b : Nat} (hx : p.tables.exec = Jvm.exec) (hb : c.code = code) (hr : meth.sig.returnType = ret) (hlocks : meth.locks = false) {pc : Nat} {H : Heap} {ls : Array Slot} (hdg : decode code pc = .ok (.ireturn, 1)) : W p l e room_1 s m #[Value.ref b] below meth c H [] 600000 7302250 (lw_Z below #[Value.ref b] s) (F0 m pc ls [.int 1]) := by
  intro T hT X
  obtain ⟨fs, hret, hrun, hended, hW, hframe⟩ := X.leave (v := some (.int 1)) (hlocks := hlocks) (fun h => by rw [hr] at h; cases h)
  have hmeth' : T.vm.method? m = some meth := X.method'
  refine ⟨T.setFrames fs, ?_, .returned (some (.int 1)), hrun, hended, rfl, ⟨_, rfl⟩, hW, hframe⟩
  jvm_step X.here [X.here.top, hx, hb, hdg, hmeth', hr, ret, narrow_b1]
  (try refine ⟨rfl, ?_⟩); (try refine ⟨rfl, ?_⟩)
  first | (intro acts; rw [hret _ acts rfl rfl rfl]) | rw [hret _ _ rfl rfl rfl]
  exact Steps.refl _
/-- what holds at the law's entry: the machine, the code, the tables' words (any of lw_tbl by 'hts w (by decide +kernel)'), the script of L ints xs at the cell b, what the Statement gives of the start (any of its parts by flat_of_before) -/
def lw_At (p : Program) (s : State) (m : MethodId) (meth : Method) (c : Code) (b L : Nat) (xs : Nat → Int32) : Prop :=
  p.tables.exec = Jvm.exec ∧ c.code = code ∧ meth.sig.returnType = ret ∧ c.maxLocals = 4 ∧ s.vm.findClass R_law = some m.cls ∧ (∀ w ∈ lw_tbl, w.before #[Value.ref b] s = true) ∧ va_X b L xs s s.heap ∧ b < s.heap.size ∧ meth.locks = false ∧ (Jvm.Cond.and given_1 narrow_1).before #[Value.ref b] s = true
theorem mtab_K {args : Array Value} {s : State} (hts : ∀ w ∈ lw_tbl, w.before args s = true) : ∃ (D : va_G) (dA : Nat → ClassId), va_K D mcl (mtys dA) s := by
  have hg : ∀ w ∈ gws, w.before args s = true := fun w h => hts w (gws_tbl h)
  have kn : ∀ c, c < 6 → ∃ (cC : ClassId) (iS : Nat → Nat), u_Kn s (mcn c) (mT c) (mnf c) cC iS := fun c hc => u_known (n := mnf c) hg (mLY hc) (hg _ (mIN hc))
  obtain ⟨c0, i0, h0⟩ := kn 0 (by decide)
  obtain ⟨c1, i1, h1⟩ := kn 1 (by decide)
  obtain ⟨c2, i2, h2⟩ := kn 2 (by decide)
  obtain ⟨c3, i3, h3⟩ := kn 3 (by decide)
  obtain ⟨c4, i4, h4⟩ := kn 4 (by decide)
  obtain ⟨c5, i5, h5⟩ := kn 5 (by decide)
  obtain ⟨a0, k0, m0, e0, f0, g0⟩ := Cond.arrayClass_spec (hg _ mAC_i)
  obtain ⟨a1, k1, m1, e1, f1, g1⟩ := Cond.arrayClass_spec (hg _ mAC_j)
  obtain ⟨m2, a2, k2, e2, -, f2, g2, n2⟩ := Cond.arrayOver_spec (hts _ mAO_i)
  obtain ⟨m3, a3, k3, e3, -, f3, g3, n3⟩ := Cond.arrayOver_spec (hts _ mAO_s)
  refine ⟨(fun k => match k with | 0 => c0 | 1 => c1 | 2 => c2 | 3 => c3 | 4 => c4 | _ => c5, fun k => match k with | 0 => i0 | 1 => i1 | 2 => i2 | 3 => i3 | 4 => i4 | _ => i5), fun k => match k with | 16 => a0 | 17 => a1 | 18 => a2 | _ => a3, ?_, ?_⟩
  · intro k q hq
    match k, hq with
    | 0, hq => cases hq; exact h0
    | 1, hq => cases hq; exact h1
    | 2, hq => cases hq; exact h2
    | 3, hq => cases hq; exact h3
    | 4, hq => cases hq; exact h4
    | 5, hq => cases hq; exact h5
    | k + 6, hq => simp [mcl] at hq
  · intro k q hq
    match k, hq with
    | 0, hq => cases hq; exact ⟨fun n z => ⟨fun k h => (by cases h), k0, f0, m0, g0⟩, e0⟩
    | 1, hq => cases hq; exact ⟨fun n z => ⟨fun k h => (by cases h), k1, f1, m1, g1⟩, e1⟩
    | 2, hq => cases hq; exact ⟨fun n z => ⟨fun k h => (by cases h), k2, f2, m2, g2⟩, k2, m2, f2, g2, e2, n2⟩
    | 3, hq => cases hq; exact ⟨fun n z => ⟨fun k h => (by cases h), k3, f3, m3, g3⟩, k3, m3, f3, g3, e3, n3⟩
    | k + 4, hq => simp [mtys] at hq
theorem mXw_start {args : Array Value} {s : State} (hts : ∀ w ∈ lw_tbl, w.before args s = true) : mXw s := by
  refine ⟨fun e he hk => ?_, va_AO.of (hts _ mAO_i), va_AO.of (hts _ mAO_s)⟩
  have h1 := hts _ (List.mem_of_getElem? (mML_ok e he).1)
  obtain ⟨z1, z2, z3, z4, z5⟩ := e
  simp only at hk h1 ⊢
  rcases hk with rfl | rfl
  · exact va_Nw.of rfl h1
  · exact va_Nw.of rfl h1
theorem mabv_start {args : Array Value} {s : State} (hts : ∀ w ∈ lw_tbl, w.before args s = true) (hg : (Jvm.Cond.and given_1 narrow_1).before args s = true) : ∃ t, va_Z "ShadowTester$Item" "ABOVE" "[I" (.ref t) (fun a => s.heap.size ≤ a) s s.heap ∧ va_T .int t 6 (fun j => .int (abv j)) (fun a => s.heap.size ≤ a) s s.heap := by
  have hs := flat_of_before _ hg
  have harr : (Cond.arrayOf (.static "ShadowTester$Item" "ABOVE" "[I") .int).before args s = true := hs _ (by decide +kernel)
  have hlen : (Cond.eq (.length (.static "ShadowTester$Item" "ABOVE" "[I")) (.int 6)).before args s = true := hs _ (by decide +kernel)
  have e0 : (Cond.eq (.elem (.static "ShadowTester$Item" "ABOVE" "[I") (.int 0)) (.int (-1))).before args s = true := hs _ (by decide +kernel)
  have e1 : (Cond.eq (.elem (.static "ShadowTester$Item" "ABOVE" "[I") (.int 1)) (.int 0)).before args s = true := hs _ (by decide +kernel)
  have e2 : (Cond.eq (.elem (.static "ShadowTester$Item" "ABOVE" "[I") (.int 2)) (.int 0)).before args s = true := hs _ (by decide +kernel)
  have e3 : (Cond.eq (.elem (.static "ShadowTester$Item" "ABOVE" "[I") (.int 3)) (.int 1)).before args s = true := hs _ (by decide +kernel)
  have e4 : (Cond.eq (.elem (.static "ShadowTester$Item" "ABOVE" "[I") (.int 4)) (.int 2)).before args s = true := hs _ (by decide +kernel)
  have e5 : (Cond.eq (.elem (.static "ShadowTester$Item" "ABOVE" "[I") (.int 5)) (.int 0)).before args s = true := hs _ (by decide +kernel)
  have hA : ∀ a : Nat, a < s.heap.size → ¬ (fun a => s.heap.size ≤ a) a := fun a h => Nat.not_le.mpr h
  obtain ⟨t, ht, hT⟩ := va_Tof (N := 6) (f := fun j => .int (abv j)) (A := fun a => s.heap.size ≤ a) (by decide) harr (va_eqt hlen) (fun j hj => by
    match j, hj with
    | 0, _ => exact va_eqt e0
    | 1, _ => exact va_eqt e1
    | 2, _ => exact va_eqt e2
    | 3, _ => exact va_eqt e3
    | 4, _ => exact va_eqt e4
    | 5, _ => exact va_eqt e5) hA
  exact ⟨t, va_Zref (hts _ mLS) (hts _ (gws_tbl (mIT (c := 2) (by decide)))) ht hA, hT⟩
set_option maxHeartbeats 4000000 in
theorem mStart {p : Program} {e : Env} {s : State} {m : MethodId} {below : List Frame} {meth : Method} {c : Code} (l : Launch) {b L : Nat} {xs : Nat → Int32} (C0 : lw_At p s m meth c b L xs)
    (h : T (TM 12) (some (L, xs)) Yl_law 126 0 [.ref 1000, mU, mU, mU] [] (fun _ _ => .null) 0 (fun v _ => v = some (.int 1))) : W p l e room_1 s m #[Value.ref b] below meth c s.heap [] 0 0 (lw_Z below #[Value.ref b] s) (entryFrame m ([Value.ref b] : List Value).toArray 4) := by
  obtain ⟨hx, hb, hr, hml, hown, hts, hX, hbl, hlocks, hgv⟩ := C0
  obtain ⟨D, dA, hK⟩ := mtab_K hts
  obtain ⟨t, hZ, hT⟩ := mabv_start hts hgv
  have fx : mFx p room_1 s m #[Value.ref b] meth c D dA s.heap.size t Yl_law 0 126 12 := ⟨hx, hb, hml, hown, fun w h => hts w (gws_tbl h), ⟨hK, hZ, hT, mXw_start hts⟩, rfl, fun h => absurd h (by decide), by decide, by decide, by decide, by decide +kernel⟩
  have hRet : mRt p l e room_1 s m #[Value.ref b] below meth c (lw_Z below #[Value.ref b] s) D dA s.heap.size b t Yl_law 0 126 (fun v _ => v = some (.int 1)) := by
    intro hp' H locs lsA pc hP1 hS1 hnn
    refine ⟨fun x hdg hrk hQ => ?_, fun x hdg hrk hQ => absurd hrk (by decide), fun hdg hrk hQ => absurd hrk (by decide)⟩
    cases hQ
    refine va_forget (fun q hq => hS1.2.2 q hq) ?_
    refine W.widen (k := 600000) (n := 7302250) (by decide) (by decide +kernel) ?_
    exact lw_ret hx hb hr hlocks hdg
  have hlv := lv_entry ([.ref b]) (n := 4) (Nat.le_of_ble_eq_true rfl)
  rw [lg_entry_eq]
  generalize (lg_sl ([.ref b]) ++ List.replicate (4 - (lg_sl ([.ref b])).length) Slot.unset).toArray = ls at hlv ⊢
  have hlv : lv_has ls 4 [(0, .ref b)] := hlv
  have k2 := mSim (b := b) fx (by decide) (fun j as hp n Q h => mMet l 12 j as hp n Q h) (fun L' xs' h => by cases h; exact ⟨hX, hbl, Nat.not_le.mpr hbl⟩) hRet h s.heap [] ls ⟨Nat.le_refl _, by decide, fun k q h => by simp [mwl] at h, va_S.rf, by
    have : mlv (adf s.heap.size b t) [.ref 1000, mU, mU, mU] = [(0, .ref b)] := by
      simp [mlv, mlv1, List.range, List.range.loop, mU, adf_s]
    rw [this]
    exact hlv, rfl⟩
  exact k2
