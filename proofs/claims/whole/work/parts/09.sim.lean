section SIM
variable {p : Program} {l : Launch} {e : Env} {R : Room} {s : State} {m : MethodId} {args : Array Value} {below : List Frame} {meth : Method} {c : Code} {Qw : State → Prop}
variable {D : va_G} {dA : Nat → ClassId} {base b t y n0 nm d : Nat} {C : mC} {X : Option (Nat × (Nat → Int32))} {Q : Option Value → mH → Prop}
/-- what the small machine says of a frame, the real one does -/
theorem mSim (fx : mFx p R s m args meth c D dA base t y n0 nm d) (hnm : nm ≤ 1000) (hC : ∀ j as hp n Q, C j as hp n Q → mCt l d j as hp n Q) (hX : ∀ L xs, X = some (L, xs) → va_X b L xs s s.heap ∧ b < s.heap.size ∧ ¬ base ≤ b) (hRet : mRt p l e R s m args below meth c Qw D dA base b t y n0 nm Q)
    {pc : Nat} {ls st : List Value} {hp : mH} {n : Nat} (h : T C X y nm pc ls st hp n Q) : mWR p l e R s m args below meth c Qw D dA base b t y n0 pc ls st hp n := by
  refine h _ (fun pc ls st hp n h => ?_)
  unfold F at h
  split at h
  · rename_i i len e0
    exact mStep fx hnm hC hX hRet (mcd_ok e0) h.1 h.2
  · exact h.elim
end SIM
set_option maxHeartbeats 4000000 in
/-- each method keeps the contract that the small machine says -/
theorem mMet (l : Launch) : ∀ (d j : Nat) (as : List Value) (hp : mH) (n : Nat) (Q : Option Value → mH → Prop), TM d j as hp n Q → mCt l d j as hp n Q := by
  intro d
  induction d with
  | zero => intro j as hp n Q h; exact h.elim
  | succ d ih =>
    intro j as hp n Q h D dA base b t
    obtain ⟨⟨hmok, hlen, hn1, hdb⟩, h⟩ := h
    have hd := ndb_of hdb
    obtain ⟨w1, w2, w3, w4, w5, w6, w7, w8, w9⟩ := mW_ok hmok
    refine Met.ofW (cc := mby j) (maxL := mml j) (ret := mrt j) w6 rfl ?_
    intro p e s m args below meth c s₁ B hml hv
    obtain ⟨rfl, hsz, hn, hP, hst⟩ := hv
    have hx := B.exec
    have hb := B.bytes
    have hr := B.returns
    have hts := atoms_spec (ws := mws j) B.pre
    have hown : s.vm.findClass (mcn (moi j)) = some m.cls := by rw [← w5]; exact findClass_of_methodNamed B.named
    have hlocks := B.notSynchronized
    have hin := (name_of_methodNamed B.named B.method).1
    have fx : mFx p (mrm (d + 1) (mgr j) (tt (n + mgr j) - tt n)) s m (as.map (vmp (adf base b t))).toArray meth c D dA base t j n (n + mgr j) d := ⟨hx, hb, hml, hown, fun w hw => hts w (List.mem_cons_of_mem _ hw), hst, hsz, fun h1 => by rw [hin]; exact h1, Nat.le_refl _, Nat.le_refl _, by show _ ≤ mgr j; omega, Nat.le_refl _⟩
    have hlv := lv_entry (as.map (vmp (adf base b t))) (n := mml j) (by rw [lexp_len as _ hd]; exact hlen)
    rw [lg_entry_eq]
    generalize (lg_sl (as.map (vmp (adf base b t))) ++ List.replicate (mml j - (lg_sl (as.map (vmp (adf base b t)))).length) Slot.unset).toArray = ls at hlv ⊢
    have hlv2 := mlv_entry hd hlv
    have hlen2 : (lent (mml j) as).length = mml j := by unfold lent; rw [List.length_append, List.length_replicate]; omega
    have hRet : mRt p l e (mrm (d + 1) (mgr j) (tt (n + mgr j) - tt n)) s m (as.map (vmp (adf base b t))).toArray below meth c (MQ below (mQo D dA base b t Q (n + mgr j)) (as.map (vmp (adf base b t))).toArray s (mgr j) (tt (n + mgr j) - tt n) (fun a => base ≤ a)) D dA base b t j n (n + mgr j) Q := by
      intro hp' H locs lsA pc hP1 hS1 hnn
      have e1 : n + mgr j - n = mgr j := by omega
      rw [e1]
      refine ⟨fun x hdg hrk hQ => ?_, fun x hdg hrk hQ => ?_, fun hdg hrk hQ => ?_⟩
      · rcases hrk with hrk | ⟨hrk, h01⟩
        · exact W.iret hx hb (hr.trans hrk) (fun u hu hW => ⟨⟨some (.int x), hp', rfl, rfl, hQ, by rw [hu]; exact hP1⟩, hS1.F hu⟩) hS1.2.2 hdg
        · exact W.zret hx hb (hr.trans hrk) (by rcases h01 with rfl | rfl <;> rfl) (fun u hu hW => ⟨⟨some (.int x), hp', rfl, rfl, hQ, by rw [hu]; exact hP1⟩, hS1.F hu⟩) hS1.2.2 hdg
      · exact W.lret hx hb (hr.trans hrk) (fun u hu hW => ⟨⟨some (.long x), hp', rfl, rfl, hQ, by rw [hu]; exact hP1⟩, hS1.F hu⟩) hS1.2.2 hdg
      · exact W.vret hx hb (hr.trans hrk) (fun u hu hW => ⟨⟨none, hp', rfl, rfl, hQ, by rw [hu]; exact hP1⟩, hS1.F hu⟩) hS1.2.2 hdg
    have key := mSim (Qw := MQ below (mQo D dA base b t Q (n + mgr j)) (as.map (vmp (adf base b t))).toArray s (mgr j) (tt (n + mgr j) - tt n) (fun a => base ≤ a)) fx hn1 ih (fun _ _ h => by cases h) hRet h
    have k2 := key s.heap [] ls ⟨Nat.le_refl _, hn, hP, va_S.rf, hlv2, hlen2⟩
    rw [Nat.sub_self, Nat.sub_self] at k2
    exact k2
