/-! THE SMALL MACHINE's HEAP IN THE REAL ONE: object q at the address base + q -/
def adf (base b t : Nat) : Nat → Nat := fun q => if q = 1000 then b else if q = 1001 then t else base + q
def vmp (ad : Nat → Nat) : Value → Value
  | .ref q => .ref (ad q)
  | v => v
def vI : Value → Int32
  | .int x => x
  | _ => 0
def vJ : Value → Int64
  | .long x => x
  | _ => 0
def vR (ad : Nat → Nat) : Value → Option Nat
  | .ref q => some (ad q)
  | _ => none
theorem vmp_cat (ad : Nat → Nat) (v : Value) : (vmp ad v).category = v.category := by cases v <;> rfl
theorem vmp_cats (ad : Nat → Nat) (st : List Value) : ((st.map (vmp ad)).map fun v => v.category).sum = (st.map Value.category).sum := by
  rw [List.map_map]
  congr 1
  exact List.map_congr_left fun v _ => vmp_cat ad v
def mrows (ad : Nat → Nat) (hp : mH) (q N : Nat) : List Value := (List.range N).map (fun k => vmp ad (hp q k))
def mel (ad : Nat → Nat) (dA : Nat → ClassId) (hp : mH) (q : Nat) : va_E :=
  if (shp q).1 = 16 then .inl (dA 16, (shp q).2, .inl (fun j => vI (hp q j)))
  else if (shp q).1 = 17 then .inl (dA 17, (shp q).2, .inr (.inl (fun j => vJ (hp q j))))
  else if (shp q).1 = 18 then .inl (dA 18, (shp q).2, .inr (.inr (.inr (.inr (fun j => vR ad (hp q j))))))
  else if (shp q).1 = 19 then .inl (dA 19, (shp q).2, .inr (.inr (.inr (.inr (fun j => vR ad (hp q j))))))
  else .inr ((shp q).1, mrows ad hp q (shp q).2)
def mwl (ad : Nat → Nat) (dA : Nat → ClassId) (hp : mH) (base n : Nat) : va_W := (List.range n).map (fun q => (base + q, mel ad dA hp q))
theorem mwl_get {ad : Nat → Nat} {dA : Nat → ClassId} {hp : mH} {base n q : Nat} (h : q < n) : (mwl ad dA hp base n)[q]? = some (base + q, mel ad dA hp q) := by
  simp [mwl, h]
theorem mel_i {ad : Nat → Nat} {dA : Nat → ClassId} {hp : mH} {q : Nat} (h : (shp q).1 = 16) : mel ad dA hp q = .inl (dA 16, (shp q).2, .inl (fun j => vI (hp q j))) := by simp [mel, h]
theorem mel_j {ad : Nat → Nat} {dA : Nat → ClassId} {hp : mH} {q : Nat} (h : (shp q).1 = 17) : mel ad dA hp q = .inl (dA 17, (shp q).2, .inr (.inl (fun j => vJ (hp q j)))) := by simp [mel, h]
theorem mel_q {ad : Nat → Nat} {dA : Nat → ClassId} {hp : mH} {q : Nat} (h : (shp q).1 = 18) : mel ad dA hp q = .inl (dA 18, (shp q).2, .inr (.inr (.inr (.inr (fun j => vR ad (hp q j)))))) := by simp [mel, h]
theorem mel_h {ad : Nat → Nat} {dA : Nat → ClassId} {hp : mH} {q : Nat} (h : (shp q).1 = 19) : mel ad dA hp q = .inl (dA 19, (shp q).2, .inr (.inr (.inr (.inr (fun j => vR ad (hp q j)))))) := by simp [mel, h]
theorem mel_o {ad : Nat → Nat} {dA : Nat → ClassId} {hp : mH} {q c N : Nat} (h : shp q = (c, N)) (hc : c < 6) : mel ad dA hp q = .inr (c, mrows ad hp q N) := by
  have h1 : (shp q).1 = c := by rw [h]
  have h2 : (shp q).2 = N := by rw [h]
  unfold mel
  rw [h1, h2, if_neg (by omega), if_neg (by omega), if_neg (by omega), if_neg (by omega)]
theorem mwl_set {ad : Nat → Nat} {dA : Nat → ClassId} {hp hp' : mH} {base n q : Nat} {e : va_E} (hq : q < n) (he : mel ad dA hp' q = e) (ho : ∀ j, j ≠ q → mel ad dA hp' j = mel ad dA hp j) : (mwl ad dA hp base n).set q (base + q, e) = mwl ad dA hp' base n := by
  apply List.ext_getElem?
  intro i
  rw [List.getElem?_set]
  by_cases hi : q = i
  · subst hi
    rw [if_pos rfl, if_pos (by simp [mwl, hq]), mwl_get hq, he]
  · rw [if_neg hi]
    by_cases hn : i < n
    · rw [mwl_get hn, mwl_get hn, ho i (Ne.symm hi)]
    · simp [mwl, hn]
theorem mwl_push {ad : Nat → Nat} {dA : Nat → ClassId} {hp hp' : mH} {base n : Nat} {e : va_E} (he : mel ad dA hp' n = e) (ho : ∀ j, j < n → mel ad dA hp' j = mel ad dA hp j) : mwl ad dA hp base n ++ [(base + n, e)] = mwl ad dA hp' base (n + 1) := by
  unfold mwl
  rw [List.range_succ, List.map_append]
  congr 1
  · exact List.map_congr_left fun j hj => by rw [ho j (List.mem_range.mp hj)]
  · simp [he]
theorem mel_congr {ad : Nat → Nat} {dA : Nat → ClassId} {hp hp' : mH} {q : Nat} (h : hp' q = hp q) : mel ad dA hp' q = mel ad dA hp q := by
  unfold mel mrows
  rw [h]
theorem mup_ne {hp : mH} {q k j : Nat} {v : Value} (h : j ≠ q) : mup hp q k v j = hp j := by
  funext i
  simp [mup, h]
theorem mrow_ne {hp : mH} {q j : Nat} {f : Nat → Value} (h : j ≠ q) : mrow hp q f j = hp j := by
  funext i
  simp [mrow, h]
theorem mrow_self {hp : mH} {q : Nat} {f : Nat → Value} : mrow hp q f q = f := by
  funext i
  simp [mrow]
theorem mrows_set {ad : Nat → Nat} {hp : mH} {q k N : Nat} {v : Value} : (mrows ad hp q N).set k (vmp ad v) = mrows ad (mup hp q k v) q N := by
  apply List.ext_getElem?
  intro i
  rw [List.getElem?_set]
  unfold mrows
  by_cases hi : k = i
  · subst hi
    rw [if_pos rfl]
    by_cases hk : k < N
    · simp [hk, mup]
    · simp [hk]
  · rw [if_neg hi]
    by_cases hk : i < N
    · simp [hk, mup, Ne.symm hi]
    · simp [hk]
theorem mwl_D {ad : Nat → Nat} {dA : Nat → ClassId} {hp : mH} {base n : Nat} : va_D (fun a => base ≤ a) (mwl ad dA hp base n) := by
  have key : ∀ (k : Nat) (q : Nat × va_E), (mwl ad dA hp base n)[k]? = some q → q.1 = base + k := by
    intro k q h
    by_cases hn : k < n
    · rw [mwl_get hn] at h; cases h; rfl
    · simp [mwl, hn] at h
  refine ⟨fun i j p q hi hj hpq => ?_, fun k q hk => ?_⟩
  · rw [key i p hi, key j q hj] at hpq; omega
  · have := key k q hk
    show base ≤ q.1
    omega
def mtys (dA : Nat → ClassId) : List (ClassId × FieldType) := [(dA 16, .int), (dA 17, .long), (dA 18, .object "ShadowTester$Item"), (dA 19, .object "ShadowTester$Sheet")]
def tt : Nat → Nat
  | 0 => 0
  | n + 1 => tt n + (shp n).2
theorem tt_mono {a b : Nat} (h : a ≤ b) : tt a ≤ tt b := by
  induction b with
  | zero => rw [Nat.le_zero.mp h]; exact Nat.le_refl _
  | succ b ih =>
    by_cases h1 : a = b + 1
    · rw [h1]; exact Nat.le_refl _
    · exact Nat.le_trans (ih (by omega)) (Nat.le_add_right _ _)
/-- locals: the listed ones -/
def mlv1 (ad : Nat → Nat) (L : List Value) (i : Nat) : Option (Nat × Value) := match L[i]? with
  | some (.long x) => if L[i + 1]? = some mW then some (i, .long x) else none
  | some (.int x) => some (i, .int x)
  | some (.ref q) => some (i, .ref (ad q))
  | _ => none
def mlv (ad : Nat → Nat) (L : List Value) : List (Nat × Value) := (List.range L.length).filterMap (mlv1 ad L)
theorem mlv1_fst {ad : Nat → Nat} {L : List Value} {i : Nat} {p : Nat × Value} (h : mlv1 ad L i = some p) : p.1 = i := by
  unfold mlv1 at h
  split at h
  · split at h
    · cases h; rfl
    · cases h
  · cases h; rfl
  · cases h; rfl
  · cases h
theorem mlv_mem {ad : Nat → Nat} {L : List Value} {p : Nat × Value} (h : p ∈ mlv ad L) : mlv1 ad L p.1 = some p ∧ p.1 < L.length := by
  obtain ⟨i, hi, h1⟩ := List.mem_filterMap.mp h
  have := mlv1_fst h1
  subst this
  exact ⟨h1, List.mem_range.mp hi⟩
theorem mlv_of {ad : Nat → Nat} {L : List Value} {i : Nat} {p : Nat × Value} (h : mlv1 ad L i = some p) : p ∈ mlv ad L := by
  refine List.mem_filterMap.mpr ⟨i, List.mem_range.mpr ?_, h⟩
  unfold mlv1 at h
  cases hL : L[i]? with
  | none => rw [hL] at h; cases h
  | some v => exact (List.getElem?_eq_some_iff.mp hL).1
theorem mlv_at {ad : Nat → Nat} {L : List Value} {i nL : Nat} {v : Value} {ls : Array Slot} (hl : lv_has ls nL (mlv ad L)) (h : mlv1 ad L i = some (i, v)) : ls[i]? = some (.val v) := hl.2.2 (i, v) (mlv_of h)
theorem mlv_int {ad : Nat → Nat} {L : List Value} {i : Nat} {x : Int32} (h : L[i]? = some (.int x)) : mlv1 ad L i = some (i, .int x) := by simp [mlv1, h]
theorem mlv_ref {ad : Nat → Nat} {L : List Value} {i : Nat} {x : Nat} (h : L[i]? = some (.ref x)) : mlv1 ad L i = some (i, .ref (ad x)) := by simp [mlv1, h]
theorem mlv_long {ad : Nat → Nat} {L : List Value} {i : Nat} {x : Int64} (h : L[i]? = some (.long x)) (h2 : L[i + 1]? = some mW) : mlv1 ad L i = some (i, .long x) := by simp [mlv1, h, h2]
/-- a store of one place -/
theorem mlv_set1 {ad : Nat → Nat} {L : List Value} {i nL : Nat} {v w : Value} {ls : Array Slot} (hv : w = vmp ad v) (hc : v.category = 1) (hn : v ≠ mW) (hi : i < L.length) (h : lv_has ls nL ((i, w) :: (mlv ad L).filter (fun q => !(q.1 == i) && !(q.1 + 1 == i && q.2.category == 2)))) : lv_has ls nL (mlv ad (L.set i v)) := by
  refine ⟨h.1, h.2.1, fun p hp => ?_⟩
  obtain ⟨h1, h2⟩ := mlv_mem hp
  rw [List.length_set] at h2
  refine h.2.2 p ?_
  by_cases hpi : p.1 = i
  · refine List.mem_cons.mpr (Or.inl ?_)
    unfold mlv1 at h1
    rw [hpi, List.getElem?_set_self hi] at h1
    cases v with
    | int x => cases h1; rw [hv]; rfl
    | ref x => cases h1; rw [hv]; rfl
    | long x => cases hc
    | double x => cases hc
    | float x => cases h1
    | null => cases h1
    | retAddr x => cases h1
  · refine List.mem_cons.mpr (Or.inr (List.mem_filter.mpr ⟨?_, ?_⟩))
    · have e : (L.set i v)[p.1]? = L[p.1]? := List.getElem?_set_ne (Ne.symm hpi)
      refine mlv_of (i := p.1) ?_
      unfold mlv1 at h1 ⊢
      rw [e] at h1
      split at h1
      · rename_i x hx
        split at h1
        · rename_i hw
          by_cases h3 : p.1 + 1 = i
          · rw [h3, List.getElem?_set_self hi] at hw
            exact absurd (Option.some.inj hw) hn
          · rw [List.getElem?_set_ne (Ne.symm h3)] at hw
            simp only [hx, hw]
            exact h1
        · cases h1
      · rename_i x hx
        first | exact h1 | (simp only [hx]; exact h1)
      · rename_i x hx
        first | exact h1 | (simp only [hx]; exact h1)
      · cases h1
    · simp only [Bool.and_eq_true, Bool.not_eq_true', beq_eq_false_iff_ne, ne_eq, Bool.and_eq_false_iff]
      refine ⟨hpi, ?_⟩
      by_cases h3 : p.1 + 1 = i
      · right
        unfold mlv1 at h1
        rw [List.getElem?_set_ne (Ne.symm hpi)] at h1
        split at h1
        · rename_i x hx
          rw [h3, List.getElem?_set_self hi] at h1
          rw [if_neg (fun z => hn (Option.some.inj z))] at h1
          cases h1
        · rw [← Option.some.inj h1]; simp [Value.category]
        · rw [← Option.some.inj h1]; simp [Value.category]
        · cases h1
      · left; exact h3
/-- a store of a long -/
theorem mlv_set2 {ad : Nat → Nat} {L : List Value} {i nL : Nat} {x : Int64} {ls : Array Slot} (hi : i + 1 < L.length) (h : lv_has ls nL ((i, .long x) :: (mlv ad L).filter (fun q => !(q.1 == i) && (!(q.1 == i + 1) && !(q.1 + 1 == i && q.2.category == 2))))) : lv_has ls nL (mlv ad ((L.set i (.long x)).set (i + 1) mW)) := by
  refine ⟨h.1, h.2.1, fun p hp => ?_⟩
  obtain ⟨h1, h2⟩ := mlv_mem hp
  rw [List.length_set, List.length_set] at h2
  refine h.2.2 p ?_
  by_cases hpi : p.1 = i
  · refine List.mem_cons.mpr (Or.inl ?_)
    unfold mlv1 at h1
    rw [hpi, List.getElem?_set_ne (by omega), List.getElem?_set_self (by omega), List.getElem?_set_self (by rw [List.length_set]; omega)] at h1
    simp only [if_true] at h1
    cases h1
    rfl
  · by_cases hpj : p.1 = i + 1
    · unfold mlv1 at h1
      rw [hpj, List.getElem?_set_self (by rw [List.length_set]; omega)] at h1
      cases h1
    · refine List.mem_cons.mpr (Or.inr (List.mem_filter.mpr ⟨?_, ?_⟩))
      · have e : ((L.set i (.long x)).set (i + 1) mW)[p.1]? = L[p.1]? := by rw [List.getElem?_set_ne (Ne.symm hpj), List.getElem?_set_ne (Ne.symm hpi)]
        refine mlv_of (i := p.1) ?_
        unfold mlv1 at h1 ⊢
        rw [e] at h1
        split at h1
        · rename_i z hz
          split at h1
          · rename_i hw
            by_cases h3 : p.1 + 1 = i
            · rw [h3, List.getElem?_set_ne (by omega), List.getElem?_set_self (by omega)] at hw
              cases hw
            · rw [List.getElem?_set_ne (by omega), List.getElem?_set_ne (by omega)] at hw
              simp only [hz, hw]
              exact h1
          · cases h1
        · rename_i z hz
          first | exact h1 | (simp only [hz]; exact h1)
        · rename_i z hz
          first | exact h1 | (simp only [hz]; exact h1)
        · cases h1
      · simp only [Bool.and_eq_true, Bool.not_eq_true', beq_eq_false_iff_ne, ne_eq, Bool.and_eq_false_iff]
        refine ⟨hpi, hpj, ?_⟩
        by_cases h3 : p.1 + 1 = i
        · right
          unfold mlv1 at h1
          rw [List.getElem?_set_ne (Ne.symm hpj), List.getElem?_set_ne (Ne.symm hpi)] at h1
          split at h1
          · rw [h3, List.getElem?_set_ne (by omega), List.getElem?_set_self (by omega)] at h1
            rw [if_neg (fun z => by cases z)] at h1
            cases h1
          · rw [← Option.some.inj h1]; simp [Value.category]
          · rw [← Option.some.inj h1]; simp [Value.category]
          · cases h1
        · left; exact h3
/-- a method's locals at its entry -/
theorem lexp_len : ∀ (as : List Value) (ad : Nat → Nat), (∀ v ∈ as, ∀ x, v ≠ .double x) → (lg_sl (as.map (vmp ad))).length = (lexp as).length
  | [], _, _ => rfl
  | v :: r, ad, h => by
    have ih := lexp_len r ad (fun w hw => h w (List.mem_cons_of_mem _ hw))
    unfold lg_sl at ih ⊢
    rw [List.map_cons, List.flatMap_cons, List.length_append, ih]
    cases v with
    | double x => exact absurd rfl (h _ List.mem_cons_self x)
    | long x => simp [vmp, Value.category, lexp]; omega
    | _ => simp [vmp, Value.category, lexp]; omega
theorem mlv_entry_mem : ∀ (as : List Value) (ad : Nat → Nat) (k : Nat) (pre : List Value) (post : List Value), pre.length = k → (∀ v ∈ as, ∀ x, v ≠ .double x) → (∀ v ∈ post, v = mU) →
    ∀ p, p.1 ≥ k → mlv1 ad (pre ++ (lexp as ++ post)) p.1 = some p → p ∈ lv_args k (as.map (vmp ad))
  | [], ad, k, pre, post, hk, _, hpost, p, hp, h => by
    unfold mlv1 at h
    simp only [lexp, List.nil_append] at h
    rw [List.getElem?_append_right (by omega)] at h
    cases hq : post[p.1 - pre.length]? with
    | none => rw [hq] at h; cases h
    | some v =>
      have := hpost v (List.mem_of_getElem? hq)
      subst this
      rw [hq] at h
      cases h
  | v :: r, ad, k, pre, post, hk, hd, hpost, p, hp, h => by
    have hd' : ∀ w ∈ r, ∀ x, w ≠ .double x := fun w hw => hd w (List.mem_cons_of_mem _ hw)
    have key : ∀ (w : Value), w.category = 1 → lexp (w :: r) = w :: lexp r → v = w → p ∈ lv_args k ((w :: r).map (vmp ad)) := by
      intro w hw hl e
      subst e
      rw [hl] at h
      by_cases hp0 : p.1 = k
      · rw [hp0] at h
        unfold mlv1 at h
        rw [List.cons_append, List.getElem?_append_right (by omega), show k - pre.length = 0 by omega] at h
        simp only [List.getElem?_cons_zero] at h
        simp only [List.map_cons, lv_args]
        cases v with
        | int x => cases h; exact List.mem_cons_self
        | ref x => cases h; exact List.mem_cons_self
        | long x => cases hw
        | double x => cases hw
        | float x => cases h
        | null => cases h
        | retAddr x => cases h
      · have h' : mlv1 ad ((pre ++ [v]) ++ (lexp r ++ post)) p.1 = some p := by simpa using h
        have := mlv_entry_mem r ad (k + 1) (pre ++ [v]) post (by simp [hk]) hd' hpost p (by omega) h'
        simp only [List.map_cons, lv_args]
        rw [show (vmp ad v).category = 1 from (vmp_cat ad v).trans hw]
        exact List.mem_cons_of_mem _ this
    cases v with
    | double x => exact absurd rfl (hd _ List.mem_cons_self x)
    | long x =>
      rw [show lexp (.long x :: r) = .long x :: mW :: lexp r from rfl] at h
      have e1 : (pre ++ (.long x :: mW :: lexp r ++ post))[k]? = some (.long x) := by
        rw [List.getElem?_append_right (by omega), show k - pre.length = 0 by omega]; rfl
      have e2 : (pre ++ (.long x :: mW :: lexp r ++ post))[k + 1]? = some mW := by
        rw [List.getElem?_append_right (by omega), show k + 1 - pre.length = 1 by omega]; rfl
      by_cases hp0 : p.1 = k
      · rw [hp0, mlv_long e1 e2] at h
        simp only [List.map_cons, lv_args]
        rw [← Option.some.inj h]
        exact List.mem_cons_self
      · by_cases hp1 : p.1 = k + 1
        · rw [hp1] at h
          have e3 : mlv1 ad (pre ++ (.long x :: mW :: lexp r ++ post)) (k + 1) = none := by
            unfold mlv1
            split
            · rename_i z hz; rw [e2] at hz; cases hz
            · rename_i z hz; rw [e2] at hz; cases hz
            · rename_i z hz; rw [e2] at hz; cases hz
            · rfl
          rw [e3] at h
          cases h
        · have h' : mlv1 ad ((pre ++ [.long x, mW]) ++ (lexp r ++ post)) p.1 = some p := by simpa [lexp] using h
          have := mlv_entry_mem r ad (k + 2) (pre ++ [.long x, mW]) post (by simp [hk]) hd' hpost p (by omega) h'
          simp only [List.map_cons, lv_args, vmp, Value.category]
          exact List.mem_cons_of_mem _ this
    | int x => exact key _ rfl rfl rfl
    | ref x => exact key _ rfl rfl rfl
    | float x => exact key _ rfl rfl rfl
    | null => exact key _ rfl rfl rfl
    | retAddr x => exact key _ rfl rfl rfl
theorem mlv_entry {as : List Value} {ad : Nat → Nat} {m : Nat} {ls : Array Slot} (hd : ∀ v ∈ as, ∀ x, v ≠ .double x) (h : lv_has ls m (lv_args 0 (as.map (vmp ad)))) : lv_has ls m (mlv ad (lent m as)) := by
  refine ⟨h.1, h.2.1, fun p hp => ?_⟩
  obtain ⟨h1, -⟩ := mlv_mem hp
  refine h.2.2 p (mlv_entry_mem as ad 0 [] (List.replicate (m - (lexp as).length) mU) rfl hd (fun v hv => (List.mem_replicate.mp hv).2) p (Nat.zero_le _) ?_)
  simpa [lent] using h1
