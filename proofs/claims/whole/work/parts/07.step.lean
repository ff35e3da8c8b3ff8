theorem adf_lt {base b t q : Nat} (h : q < 1000) : adf base b t q = base + q := by unfold adf; rw [if_neg (by omega), if_neg (by omega)]
theorem adf_s {base b t : Nat} : adf base b t 1000 = b := by simp [adf]
theorem adf_t {base b t : Nat} : adf base b t 1001 = t := by simp [adf]
theorem goodIn_gws {ws : List Cond} (h : ∀ w ∈ ws, w ∈ gws) : GoodIn gws ws := fun w hw => ⟨h w hw, good_of_word (List.mem_filter.mp (h w hw)).2⟩
theorem mcode_in {j : Nat} (h : mok j = true) : Cond.code (mmn j) (mby j) (mml j) (mrt j) ∈ gws := gws_of (mW_ok h).1 rfl
theorem mws_in {j : Nat} (h : mok j = true) : ∀ w ∈ mws j, w ∈ gws := fun w hw => (List.mem_cons.mp hw).elim (fun e => e ▸ mcode_in h) (fun h => h)
theorem defv {ad : Nat → Nat} {c k : Nat} (hc : c < 6) (hk : k < mnf c) : defaultValue (mtyp c k) = vmp ad (vdf (mtyp c k)) := by
  have h : ∀ c, c < 6 → ∀ k, k < mnf c → (match mtyp c k with | .int | .boolean | .long | .object _ | .array _ => true | _ => false) = true := by decide +kernel
  have h1 := h c hc k hk
  cases hm : mtyp c k with
  | int => rfl
  | boolean => rfl
  | long => rfl
  | object n => rfl
  | array n => rfl
  | _ => rw [hm] at h1; cases h1
theorem mst_split {st : List Value} {na b0 : Nat} {rest : List Value} (h : st.drop na = .ref b0 :: rest) : st = st.take na ++ .ref b0 :: rest := by
  rw [← h, List.take_append_drop]
section STEP
variable {p : Program} {l : Launch} {e : Env} {R : Room} {s : State} {m : MethodId} {args : Array Value} {below : List Frame} {meth : Method} {c : Code} {Qw : State → Prop}
variable {D : va_G} {dA : Nat → ClassId} {base b t y n0 nm d : Nat} {C : mC} {X : Option (Nat × (Nat → Int32))} {Q : Option Value → mH → Prop}
def mRt (p : Program) (l : Launch) (e : Env) (R : Room) (s : State) (m : MethodId) (args : Array Value) (below : List Frame) (meth : Method) (c : Code) (Qw : State → Prop) (D : va_G) (dA : Nat → ClassId) (base b t y n0 nm : Nat) (Q : Option Value → mH → Prop) : Prop :=
  ∀ (hp : mH) (H : Heap) (locs : List Loc) (lsA : Array Slot) (pc : Nat), va_P D mcl (mwl (adf base b t) dA hp base nm) H → va_S (fun a => base ≤ a) s.heap H locs → n0 ≤ nm →
    (∀ x, decode (mby y) pc = .ok (.ireturn, 1) → rok y x → Q (some (.int x)) hp → W p l e R s m args below meth c H locs (nm - n0) (tt nm - tt n0) Qw (F0 m pc lsA [.int x])) ∧
    (∀ x, decode (mby y) pc = .ok (.lreturn, 1) → mrt y = some .long → Q (some (.long x)) hp → W p l e R s m args below meth c H locs (nm - n0) (tt nm - tt n0) Qw (F0 m pc lsA [.long x])) ∧
    (decode (mby y) pc = .ok (.return_, 1) → mrt y = none → Q none hp → W p l e R s m args below meth c H locs (nm - n0) (tt nm - tt n0) Qw (F0 m pc lsA []))
theorem mW_le {H : Heap} {locs : List Loc} {cells slots N : Nat} {g : JFrame} (hs : s.heap.size = base + n0) (hN : n0 ≤ N) (hc : cells = N - n0) (k : H.size ≤ base + N → W p l e R s m args below meth c H locs cells slots Qw g) : W p l e R s m args below meth c H locs cells slots Qw g := by
  intro T hT X
  have h1 : T.heap.size ≤ s.heap.size + cells := X.same.2.2.1
  rw [hT] at h1
  exact k (by omega) T hT X
theorem mnew_at {ad : Nat → Nat} {hp : mH} {n q : Nat} {e0 : va_E} {H1 : Heap} (hP : va_P D mcl (mwl ad dA hp base n ++ [(q, e0)]) H1) (hD : va_D (fun a => base ≤ a) (mwl ad dA hp base n ++ [(q, e0)])) (hs : H1.size ≤ base + (n + 1)) : q = base + n := by
  have hlen : (mwl ad dA hp base n).length = n := by simp [mwl]
  have hq : (mwl ad dA hp base n ++ [(q, e0)])[n]? = some (q, e0) := by
    rw [List.getElem?_append_right (by omega), hlen, Nat.sub_self]; rfl
  have h1 : q < H1.size := (hP n _ hq).lt
  have h2 : base ≤ q := hD.2 n _ hq
  by_cases h3 : q - base < n
  · have h4 : (mwl ad dA hp base n ++ [(q, e0)])[q - base]? = some (base + (q - base), mel ad dA hp (q - base)) := by
      rw [List.getElem?_append_left (by omega)]; exact mwl_get h3
    have := hD.1 _ _ _ _ h4 hq (by show base + (q - base) = q; omega)
    omega
  · omega
theorem mWd_call (hst : mSt D dA base t s) {hp : mH} {n : Nat} {H : Heap} {locs : List Loc} {U : State} (hn : n ≤ 1000) (hP : va_P D mcl (mwl (adf base b t) dA hp base n) H) (hS : va_S (fun a => base ≤ a) s.heap H locs) (hz : H.size = base + n) (hU : U.heap = H) (hW : s.WarmedH U.vm) : mWd D dA base b t hp n U := by
  obtain ⟨hK, hZ, hT, hXw⟩ := hst
  refine ⟨by rw [hU]; exact hz, hn, by rw [hU]; exact hP, va_K.moved hW.alike hK, ?_, ?_, hXw.warm hW⟩
  · rw [hU]; exact (hZ.kept (fun a h1 h2 => hS.2.1 a h1 h2)).moved hW.alike
  · rw [hU]; exact (hT.kept (fun a h1 h2 => hS.2.1 a h1 h2)).moved hW.alike
theorem mblind {as : List Value} {hp : mH} {n : Nat} : FrameBlind (va_Pc as (mWd D dA base b t hp n)) := by
  intro a U g mk q
  obtain ⟨q0, q1, q2, q3, qK, qZ, qT, qX⟩ := q
  exact ⟨q0, q1, q2, q3, va_K.moved (u := U) (U := U.calling g mk a) (Vm.Alike.refl U.vm) qK, va_Z.moved (u := U) (U := U.calling g mk a) (Vm.Alike.refl U.vm) qZ, va_T.moved (u := U) (U := U.calling g mk a) (Vm.Alike.refl U.vm) qT, mXw.same (s := U) (U := U.calling g mk a) rfl qX⟩
theorem mCallo {H : Heap} {locs : List Loc} {cells slots mc ms N pc : Nat} {lsA : Array Slot} {st0 rest : List Value} {Q' : Option Value → mH → Prop} {a : Array Value}
    (hr : va_Run p l e R s m args below meth c H locs cells slots mc ms (F0 m pc lsA st0) rest (mQo D dA base b t Q' N a) (fun a => base ≤ a)) (hS : va_S (fun a => base ≤ a) s.heap H locs)
    (kk : ∀ (v : Option Value) (hp' : mH) (H1 : Heap) (locs1 : List Loc), v.map (vmp (adf base b t)) = v → Q' v hp' → va_P D mcl (mwl (adf base b t) dA hp' base N) H1 → va_S (fun a => base ≤ a) s.heap H1 locs1 → W p l e R s m args below meth c H1 locs1 (cells + mc) (slots + ms) Qw (F0 m (pc + 3) lsA (v.toList ++ rest))) : W p l e R s m args below meth c H locs cells slots Qw (F0 m pc lsA st0) := by
  intro T hT X
  obtain ⟨v, st₀, t', T', L, h0, X', hL, e1, e2, ⟨⟨v2, hp2, hv, hvm, hq, hP⟩, hz, hk⟩, st⟩ := hr T hT X
  cases hv
  rw [h0] at hz hk
  obtain ⟨t2, a1, b1⟩ := kk v hp2 T'.heap (locs ++ L) hvm hq (by rw [e1]; exact hP)
    ⟨Nat.le_trans hS.1 (by rw [e1]; exact hz), fun q h1 h2 => by rw [e1, hk q (Nat.lt_of_lt_of_le h1 hS.1) h2]; exact hS.2.1 q h1 h2, fun q hq => by
      rcases List.mem_append.mp hq with h | h
      · exact hS.2.2 q h
      · exact hL q h⟩ T' rfl X'
  exact ⟨t2, st t2 a1, b1⟩
theorem mroomy {ad : Nat → Nat} {rest : List Value} (h : roomy rest) : ((rest.map (vmp ad)).map fun v => v.category).sum ≤ 8 := by
  rw [vmp_cats]; exact h
/-- behind a call -/
theorem mcall_go (fx : mFx p R s m args meth c D dA base t y n0 nm d) {R' : mR} (hR' : ∀ pc ls st hp n, R' pc ls st hp n → mWR p l e R s m args below meth c Qw D dA base b t y n0 pc ls st hp n)
    {pc j n : Nat} {ls rest : List Value} {hp : mH} {H : Heap} {locs : List Loc} {lsA : Array Slot} {st0 : List Value} {a : Array Value} (hr : mRl s D dA base b t y n0 ls hp n H locs lsA) (hN : n + mgr j ≤ nm) (hnm : nm ≤ 1000)
    (hrun : va_Run p l e R s m args below meth c H locs (n - n0) (tt n - tt n0) (mgr j) (tt (n + mgr j) - tt n) (F0 m pc lsA st0) (rest.map (vmp (adf base b t))) (mQo D dA base b t (fun v hp' => R' (pc + 3) ls (v.toList ++ rest) hp' (n + mgr j)) (n + mgr j) a) (fun a => base ≤ a)) : W p l e R s m args below meth c H locs (n - n0) (tt n - tt n0) Qw (F0 m pc lsA st0) := by
  refine mCallo hrun hr.2.2.2.1 (fun v hp' H1 locs1 hvm hq hP1 hS1 => ?_)
  have h0 := hr.1
  have h1 := hR' _ _ _ _ _ hq H1 locs1 lsA ⟨by omega, by omega, hP1, hS1, hr.2.2.2.2.1, hr.2.2.2.2.2⟩
  have t1 : tt n0 ≤ tt n := tt_mono h0
  have t2 : tt n ≤ tt (n + mgr j) := tt_mono (Nat.le_add_right _ _)
  refine W.cs (cells' := n + mgr j - n0) (slots' := tt (n + mgr j) - tt n0) (by omega) (by omega) ?_
  have e1 : (v.toList ++ rest).map (vmp (adf base b t)) = v.toList ++ rest.map (vmp (adf base b t)) := by
    rw [List.map_append]
    congr 1
    cases v with
    | none => rfl
    | some w => simp only [Option.map_some, Option.some.injEq] at hvm; simp [hvm]
  rw [← e1]
  exact h1
end STEP
