/-! A SMALL MACHINE: methods by number, objects by number; T says 'from here it comes to its end with Q'. It is the least predicate that is closed under the instructions' rows; part 05 shows that the real machine follows it. -/
abbrev mH : Type := Nat → Nat → Value
def mU : Value := .retAddr 0
def mW : Value := .retAddr 1
def mup (hp : mH) (q k : Nat) (v : Value) : mH := fun a j => if a = q ∧ j = k then v else hp a j
def mrow (hp : mH) (q : Nat) (f : Nat → Value) : mH := fun a j => if a = q then f j else hp a j
def mcpy (hp : mH) (a a0 sp dp n : Nat) : mH := mrow hp a (fun k => if dp ≤ k ∧ k < dp + n then hp a0 (sp + (k - dp)) else hp a k)
def popI (st : List Value) (k : Int32 → List Value → Prop) : Prop := match st with
  | .int a :: r => k a r
  | _ => False
def popJ (st : List Value) (k : Int64 → List Value → Prop) : Prop := match st with
  | .long a :: r => k a r
  | _ => False
def popA (st : List Value) (k : Nat → List Value → Prop) : Prop := match st with
  | .ref a :: r => k a r
  | _ => False
def pop1 (st : List Value) (k : Value → List Value → Prop) : Prop := match st with
  | v :: r => v.category = 1 ∧ k v r
  | [] => False
theorem popI_of {st : List Value} {k : Int32 → List Value → Prop} (h : popI st k) : ∃ a r, st = .int a :: r ∧ k a r := by
  match st, h with
  | .int a :: r, h => exact ⟨a, r, rfl, h⟩
theorem popJ_of {st : List Value} {k : Int64 → List Value → Prop} (h : popJ st k) : ∃ a r, st = .long a :: r ∧ k a r := by
  match st, h with
  | .long a :: r, h => exact ⟨a, r, rfl, h⟩
theorem popA_of {st : List Value} {k : Nat → List Value → Prop} (h : popA st k) : ∃ a r, st = .ref a :: r ∧ k a r := by
  match st, h with
  | .ref a :: r, h => exact ⟨a, r, rfl, h⟩
theorem pop1_of {st : List Value} {k : Value → List Value → Prop} (h : pop1 st k) : ∃ a r, st = a :: r ∧ a.category = 1 ∧ k a r := by
  match st, h with
  | a :: r, h => exact ⟨a, r, rfl, h.1, h.2⟩
theorem popI_mono {st : List Value} {k k' : Int32 → List Value → Prop} (hk : ∀ a r, k a r → k' a r) (h : popI st k) : popI st k' := by
  match st, h with
  | .int a :: r, h => exact hk _ _ h
theorem popJ_mono {st : List Value} {k k' : Int64 → List Value → Prop} (hk : ∀ a r, k a r → k' a r) (h : popJ st k) : popJ st k' := by
  match st, h with
  | .long a :: r, h => exact hk _ _ h
theorem popA_mono {st : List Value} {k k' : Nat → List Value → Prop} (hk : ∀ a r, k a r → k' a r) (h : popA st k) : popA st k' := by
  match st, h with
  | .ref a :: r, h => exact hk _ _ h
theorem pop1_mono {st : List Value} {k k' : Value → List Value → Prop} (hk : ∀ a r, k a r → k' a r) (h : pop1 st k) : pop1 st k' := by
  match st, h with
  | a :: r, h => exact ⟨h.1, hk _ _ h.2⟩
def getI (ls : List Value) (i : Nat) (k : Int32 → Prop) : Prop := match ls[i]? with
  | some (.int a) => k a
  | _ => False
def getJ (ls : List Value) (i : Nat) (k : Int64 → Prop) : Prop := match ls[i]? with
  | some (.long a) => ls[i + 1]? = some mW ∧ k a
  | _ => False
def getA (ls : List Value) (i : Nat) (k : Nat → Prop) : Prop := match ls[i]? with
  | some (.ref a) => k a
  | _ => False
theorem getI_of {ls : List Value} {i : Nat} {k : Int32 → Prop} (h : getI ls i k) : ∃ a, ls[i]? = some (.int a) ∧ k a := by
  unfold getI at h
  split at h
  · rename_i a e; exact ⟨a, e, h⟩
  · exact h.elim
theorem getJ_of {ls : List Value} {i : Nat} {k : Int64 → Prop} (h : getJ ls i k) : ∃ a, ls[i]? = some (.long a) ∧ ls[i + 1]? = some mW ∧ k a := by
  unfold getJ at h
  split at h
  · rename_i a e; exact ⟨a, e, h.1, h.2⟩
  · exact h.elim
theorem getA_of {ls : List Value} {i : Nat} {k : Nat → Prop} (h : getA ls i k) : ∃ a, ls[i]? = some (.ref a) ∧ k a := by
  unfold getA at h
  split at h
  · rename_i a e; exact ⟨a, e, h⟩
  · exact h.elim
theorem getI_mono {ls : List Value} {i : Nat} {k k' : Int32 → Prop} (hk : ∀ a, k a → k' a) (h : getI ls i k) : getI ls i k' := by
  obtain ⟨a, e, h⟩ := getI_of h
  unfold getI; rw [e]; exact hk _ h
theorem getJ_mono {ls : List Value} {i : Nat} {k k' : Int64 → Prop} (hk : ∀ a, k a → k' a) (h : getJ ls i k) : getJ ls i k' := by
  obtain ⟨a, e, e2, h⟩ := getJ_of h
  unfold getJ; rw [e]; exact ⟨e2, hk _ h⟩
theorem getA_mono {ls : List Value} {i : Nat} {k k' : Nat → Prop} (hk : ∀ a, k a → k' a) (h : getA ls i k) : getA ls i k' := by
  obtain ⟨a, e, h⟩ := getA_of h
  unfold getA; rw [e]; exact hk _ h
def jmp (pc : Nat) (off : Int) (k : Nat → Prop) : Prop := 0 ≤ (pc : Int) + off ∧ k ((pc : Int) + off).toNat
theorem jmp_eq {pc tgt : Nat} {off : Int} (k : Nat → Prop) (h : (pc : Int) + off = (tgt : Int)) : jmp pc off k = k tgt := by
  unfold jmp; rw [h]; simp
theorem jmp_of {pc : Nat} {off : Int} {k : Nat → Prop} (h : jmp pc off k) : ∃ tgt : Nat, (pc : Int) + off = (tgt : Int) ∧ k tgt := ⟨_, (Int.toNat_of_nonneg h.1).symm, h.2⟩
theorem jmp_mono {pc : Nat} {off : Int} {k k' : Nat → Prop} (hk : ∀ a, k a → k' a) (h : jmp pc off k) : jmp pc off k' := ⟨h.1, hk _ h.2⟩
/-- what a field of a type may hold -/
def vok : FieldType → Value → Prop
  | .int, .int _ => True
  | .boolean, .int x => x = 0 ∨ x = 1
  | .long, .long _ => True
  | .object _, .ref _ => True
  | .array _, .ref _ => True
  | _, _ => False
def vdf : FieldType → Value
  | .int => .int 0
  | .boolean => .int 0
  | .long => .long 0
  | _ => .null
def abv : Nat → Int32
  | 0 => -1
  | 3 => 1
  | 4 => 2
  | _ => 0
def roomy (st : List Value) : Prop := (st.map Value.category).sum ≤ 8
def rok (y : Nat) (v : Int32) : Prop := mrt y = some .int ∨ (mrt y = some .boolean ∧ (v = 0 ∨ v = 1))
def mlk (o i : Nat) : Option (Nat × Nat) := (mml_ o i).map (fun e => (e.1, e.2.1))
def mfk (o i : Nat) : Option (Nat × Nat) := (mfl o i).map (fun e => (e.1, e.2.1))
abbrev mC : Type := Nat → List Value → mH → Nat → (Option Value → mH → Prop) → Prop
abbrev mR : Type := Nat → List Value → List Value → mH → Nat → Prop
def mcall (C : mC) (nm : Nat) (R : mR) (pc : Nat) (ls : List Value) (hp : mH) (n : Nat) (j : Nat) (as rest : List Value) : Prop :=
  roomy rest ∧ n + mgr j ≤ nm ∧ mok j = true ∧ C j as hp n (fun v hp' => R (pc + 3) ls (v.toList ++ rest) hp' (n + mgr j))
def ilen : Instr → Nat
  | .bipush _ | .ldc _ | .iload _ | .lload _ | .aload _ | .istore _ | .lstore _ | .astore _ | .newarray _ => 2
  | .sipush _ | .ldc_w _ | .ldc2_w _ | .iinc _ _ | .goto _ | .if_icmp _ _ | .ifCond _ _ | .getfield _ | .putfield _ | .getstatic _ | .invokevirtual _ | .invokestatic _ | .invokespecial _ | .new _ | .anewarray _ => 3
  | _ => 1
def lenOk : Instr → Nat → Bool
  | .tableswitch _ _ _ _, _ => true
  | i, len => len == ilen i
def Fi (C : mC) (X : Option (Nat × (Nat → Int32))) (y nm : Nat) (R : mR) (Q : Option Value → mH → Prop) (pc : Nat) (ls st : List Value) (hp : mH) (n : Nat) : Instr → Prop
  | .iconst v => R (pc + 1) ls (.int (Int32.ofInt v) :: st) hp n
  | .bipush v => R (pc + 2) ls (.int (Int8.ofInt v).toInt32 :: st) hp n
  | .sipush v => R (pc + 3) ls (.int (Int16.ofInt v).toInt32 :: st) hp n
  | .lconst v => R (pc + 1) ls (.long (Int64.ofNat v.val) :: st) hp n
  | .ldc i => (match mki (moi y) i with
    | some v => R (pc + 2) ls (.int v :: st) hp n
    | none => False)
  | .ldc_w i => (match mki (moi y) i with
    | some v => R (pc + 3) ls (.int v :: st) hp n
    | none => False)
  | .ldc2_w i => (match mkj (moi y) i with
    | some v => R (pc + 3) ls (.long v :: st) hp n
    | none => False)
  | .iload_n k => getI ls k.val fun x => R (pc + 1) ls (.int x :: st) hp n
  | .iload k => getI ls k fun x => R (pc + 2) ls (.int x :: st) hp n
  | .lload_n k => getJ ls k.val fun x => R (pc + 1) ls (.long x :: st) hp n
  | .lload k => getJ ls k fun x => R (pc + 2) ls (.long x :: st) hp n
  | .aload_n k => getA ls k.val fun x => R (pc + 1) ls (.ref x :: st) hp n
  | .aload k => getA ls k fun x => R (pc + 2) ls (.ref x :: st) hp n
  | .istore_n k => popI st fun x st => k.val < ls.length ∧ R (pc + 1) (ls.set k.val (.int x)) st hp n
  | .istore k => popI st fun x st => k < ls.length ∧ R (pc + 2) (ls.set k (.int x)) st hp n
  | .lstore_n k => popJ st fun x st => k.val + 1 < ls.length ∧ R (pc + 1) ((ls.set k.val (.long x)).set (k.val + 1) mW) st hp n
  | .lstore k => popJ st fun x st => k + 1 < ls.length ∧ R (pc + 2) ((ls.set k (.long x)).set (k + 1) mW) st hp n
  | .astore_n k => popA st fun x st => k.val < ls.length ∧ R (pc + 1) (ls.set k.val (.ref x)) st hp n
  | .astore k => popA st fun x st => k < ls.length ∧ R (pc + 2) (ls.set k (.ref x)) st hp n
  | .iinc k v => getI ls k fun x => R (pc + 3) (ls.set k (.int (x + Int32.ofInt v))) st hp n
  | .dup => pop1 st fun a st => R (pc + 1) ls (a :: a :: st) hp n
  | .dup_x1 => pop1 st fun a st => pop1 st fun b st => R (pc + 1) ls (a :: b :: a :: st) hp n
  | .dup2 => pop1 st fun a st => pop1 st fun b st => R (pc + 1) ls (a :: b :: a :: b :: st) hp n
  | .pop => pop1 st fun _ st => R (pc + 1) ls st hp n
  | .goto off => jmp pc off fun t => R t ls st hp n
  | .i2b => popI st fun a st => R (pc + 1) ls (.int a.toInt8.toInt32 :: st) hp n
  | .i2l => popI st fun a st => R (pc + 1) ls (.long a.toInt64 :: st) hp n
  | .l2i => popJ st fun a st => R (pc + 1) ls (.int a.toInt32 :: st) hp n
  | .iadd => popI st fun b st => popI st fun a st => R (pc + 1) ls (.int (a + b) :: st) hp n
  | .isub => popI st fun b st => popI st fun a st => R (pc + 1) ls (.int (a - b) :: st) hp n
  | .imul => popI st fun b st => popI st fun a st => R (pc + 1) ls (.int (a * b) :: st) hp n
  | .idiv => popI st fun b st => popI st fun a st => ¬ b = 0 ∧ R (pc + 1) ls (.int (a / b) :: st) hp n
  | .irem => popI st fun b st => popI st fun a st => ¬ b = 0 ∧ R (pc + 1) ls (.int (a - a / b * b) :: st) hp n
  | .ineg => popI st fun a st => R (pc + 1) ls (.int (-a) :: st) hp n
  | .iand => popI st fun b st => popI st fun a st => R (pc + 1) ls (.int (a &&& b) :: st) hp n
  | .ior => popI st fun b st => popI st fun a st => R (pc + 1) ls (.int (a ||| b) :: st) hp n
  | .ixor => popI st fun b st => popI st fun a st => R (pc + 1) ls (.int (a ^^^ b) :: st) hp n
  | .ishl => popI st fun b st => popI st fun a st => R (pc + 1) ls (.int (a <<< (b &&& 31)) :: st) hp n
  | .ishr => popI st fun b st => popI st fun a st => R (pc + 1) ls (.int (a >>> (b &&& 31)) :: st) hp n
  | .iushr => popI st fun b st => popI st fun a st => R (pc + 1) ls (.int (a.toUInt32 >>> (b.toUInt32 &&& Int32.toUInt32 31)).toInt32 :: st) hp n
  | .ladd => popJ st fun b st => popJ st fun a st => R (pc + 1) ls (.long (a + b) :: st) hp n
  | .lsub => popJ st fun b st => popJ st fun a st => R (pc + 1) ls (.long (a - b) :: st) hp n
  | .lmul => popJ st fun b st => popJ st fun a st => R (pc + 1) ls (.long (a * b) :: st) hp n
  | .ldiv => popJ st fun b st => popJ st fun a st => ¬ b = 0 ∧ R (pc + 1) ls (.long (a / b) :: st) hp n
  | .lrem => popJ st fun b st => popJ st fun a st => ¬ b = 0 ∧ R (pc + 1) ls (.long (a - a / b * b) :: st) hp n
  | .land => popJ st fun b st => popJ st fun a st => R (pc + 1) ls (.long (a &&& b) :: st) hp n
  | .lor => popJ st fun b st => popJ st fun a st => R (pc + 1) ls (.long (a ||| b) :: st) hp n
  | .lshl => popI st fun b st => popJ st fun a st => R (pc + 1) ls (.long (a <<< (b.toInt64 &&& 63)) :: st) hp n
  | .lshr => popI st fun b st => popJ st fun a st => R (pc + 1) ls (.long (a >>> (b.toInt64 &&& 63)) :: st) hp n
  | .lcmp => popJ st fun b st => popJ st fun a st => R (pc + 1) ls (.int (lg_cmp a b) :: st) hp n
  | .if_icmp c off => 0 ≤ (pc : Int) + off ∧ popI st fun b st => popI st fun a st => (match c with
    | .eq => if a = b then jmp pc off (fun t => R t ls st hp n) else R (pc + 3) ls st hp n
    | .ne => if a = b then R (pc + 3) ls st hp n else jmp pc off (fun t => R t ls st hp n)
    | .lt => if a < b then jmp pc off (fun t => R t ls st hp n) else R (pc + 3) ls st hp n
    | .ge => if b ≤ a then jmp pc off (fun t => R t ls st hp n) else R (pc + 3) ls st hp n
    | .gt => if b < a then jmp pc off (fun t => R t ls st hp n) else R (pc + 3) ls st hp n
    | .le => if a ≤ b then jmp pc off (fun t => R t ls st hp n) else R (pc + 3) ls st hp n)
  | .ifCond c off => 0 ≤ (pc : Int) + off ∧ popI st fun a st => (match c with
    | .eq => if a = 0 then jmp pc off (fun t => R t ls st hp n) else R (pc + 3) ls st hp n
    | .ne => if a = 0 then R (pc + 3) ls st hp n else jmp pc off (fun t => R t ls st hp n)
    | .lt => if a < 0 then jmp pc off (fun t => R t ls st hp n) else R (pc + 3) ls st hp n
    | .ge => if 0 ≤ a then jmp pc off (fun t => R t ls st hp n) else R (pc + 3) ls st hp n
    | .gt => if 0 < a then jmp pc off (fun t => R t ls st hp n) else R (pc + 3) ls st hp n
    | .le => if a ≤ 0 then jmp pc off (fun t => R t ls st hp n) else R (pc + 3) ls st hp n)
  | .tableswitch d lo hi offs => popI st fun x st => if x.toInt < lo ∨ hi < x.toInt then jmp pc d (fun t => R t ls st hp n) else (match offs[(x.toInt - lo).toNat]? with
    | some off => jmp pc off (fun t => R t ls st hp n)
    | none => False)
  | .getfield i => popA st fun q st => (match mfk (moi y) i with
    | some (c, k) => q < n ∧ shp q = (c, mnf c) ∧ R (pc + 3) ls (hp q k :: st) hp n
    | none => False)
  | .putfield i => (match st with
    | v :: .ref q :: st => (match mfk (moi y) i with
      | some (c, k) => q < n ∧ shp q = (c, mnf c) ∧ vok (mtyp c k) v ∧ ((mT c k).2.2.2 = true → (mmn y).name = "<init>" ∧ moi y = c) ∧ R (pc + 3) ls st (mup hp q k v) n
      | none => False)
    | _ => False)
  | .getstatic i => msf (moi y) i = true ∧ R (pc + 3) ls (.ref 1001 :: st) hp n
  | .iaload => popI st fun i st => popA st fun q st => (if q = 1001 then vp_in i 6 ∧ R (pc + 1) ls (.int (abv i.toNatClampNeg) :: st) hp n else if q = 1000 then (match X with
      | some (L, xs) => vp_in i L ∧ R (pc + 1) ls (.int (xs i.toNatClampNeg) :: st) hp n
      | none => False) else q < n ∧ (shp q).1 = 16 ∧ vp_in i (shp q).2 ∧ (match hp q i.toNatClampNeg with
      | .int x => R (pc + 1) ls (.int x :: st) hp n
      | _ => False))
  | .laload => popI st fun i st => popA st fun q st => q < n ∧ (shp q).1 = 17 ∧ vp_in i (shp q).2 ∧ (match hp q i.toNatClampNeg with
      | .long x => R (pc + 1) ls (.long x :: st) hp n
      | _ => False)
  | .aaload => popI st fun i st => popA st fun q st => q < n ∧ ((shp q).1 = 18 ∨ (shp q).1 = 19) ∧ vp_in i (shp q).2 ∧ (match hp q i.toNatClampNeg with
      | .ref x => R (pc + 1) ls (.ref x :: st) hp n
      | _ => False)
  | .iastore => popI st fun x st => popI st fun i st => popA st fun q st => q < n ∧ (shp q).1 = 16 ∧ vp_in i (shp q).2 ∧ R (pc + 1) ls st (mup hp q i.toNatClampNeg (.int x)) n
  | .lastore => popJ st fun x st => popI st fun i st => popA st fun q st => q < n ∧ (shp q).1 = 17 ∧ vp_in i (shp q).2 ∧ R (pc + 1) ls st (mup hp q i.toNatClampNeg (.long x)) n
  | .aastore => popA st fun x st => popI st fun i st => popA st fun q st => q < n ∧ x < n ∧ (((shp q).1 = 18 ∧ shp x = (2, 10)) ∨ ((shp q).1 = 19 ∧ shp x = (3, 3))) ∧ vp_in i (shp q).2 ∧ R (pc + 1) ls st (mup hp q i.toNatClampNeg (.ref x)) n
  | .arraylength => popA st fun q st => if q = 1000 then (match X with
      | some (L, _) => R (pc + 1) ls (.int (Int32.ofNat L) :: st) hp n
      | none => False) else q < n ∧ ((shp q).1 = 16 ∨ (shp q).1 = 17) ∧ R (pc + 1) ls (.int (Int32.ofNat (shp q).2) :: st) hp n
  | .new i => (match mck (moi y) i with
    | some c => c < 6 ∧ shp n = (c, mnf c) ∧ n < 1000 ∧ n + 1 ≤ nm ∧ R (pc + 3) ls (.ref n :: st) (mrow hp n (fun k => vdf (mtyp c k))) (n + 1)
    | none => False)
  | .newarray t => popI st fun z st => ¬ z < 0 ∧ z.toNatClampNeg ≤ 1000 ∧ n < 1000 ∧ n + 1 ≤ nm ∧ (match t with
    | .int => shp n = (16, z.toNatClampNeg) ∧ R (pc + 2) ls (.ref n :: st) (mrow hp n (fun _ => .int 0)) (n + 1)
    | .long => shp n = (17, z.toNatClampNeg) ∧ R (pc + 2) ls (.ref n :: st) (mrow hp n (fun _ => .long 0)) (n + 1)
    | _ => False)
  | .anewarray i => popI st fun z st => ¬ z < 0 ∧ z.toNatClampNeg ≤ 1000 ∧ n < 1000 ∧ n + 1 ≤ nm ∧ (match mck (moi y) i with
    | some 2 => shp n = (18, z.toNatClampNeg) ∧ R (pc + 3) ls (.ref n :: st) (mrow hp n (fun _ => .null)) (n + 1)
    | some 3 => shp n = (19, z.toNatClampNeg) ∧ R (pc + 3) ls (.ref n :: st) (mrow hp n (fun _ => .null)) (n + 1)
    | _ => False)
  | .invokevirtual i => (match mlk (moi y) i with
    | some (0, j) => mst j = false ∧ (mmn j).name ≠ "<init>" ∧ mna j ≤ st.length ∧ popA (st.drop (mna j)) fun b rest => b < n ∧ shp b = (moi j, mnf (moi j)) ∧ moi j < 6 ∧ mcall C nm R pc ls hp n j (.ref b :: (st.take (mna j)).reverse) rest
    | _ => False)
  | .invokestatic i => (match mlk (moi y) i with
    | some (1, j) => mst j = true ∧ mna j ≤ st.length ∧ mcall C nm R pc ls hp n j (st.take (mna j)).reverse (st.drop (mna j))
    | some (4, j) => mst j = true ∧ mna j ≤ st.length ∧ mcall C nm R pc ls hp n j (st.take (mna j)).reverse (st.drop (mna j))
    | some (9, _) => popI st fun z st => popI st fun dp st => popA st fun a st => popI st fun sp st => popA st fun a0 st => roomy st ∧ a < n ∧ a0 < n ∧ (((shp a).1 = 16 ∧ (shp a0).1 = 16) ∨ ((shp a).1 = 17 ∧ (shp a0).1 = 17)) ∧ ¬ sp < 0 ∧ ¬ dp < 0 ∧ ¬ z < 0 ∧ sp.toNatClampNeg + z.toNatClampNeg ≤ (shp a0).2 ∧ dp.toNatClampNeg + z.toNatClampNeg ≤ (shp a).2 ∧ R (pc + 3) ls st (mcpy hp a a0 sp.toNatClampNeg dp.toNatClampNeg z.toNatClampNeg) n
    | some (10, _) => popI st fun b st => popI st fun a st => roomy st ∧ n ≤ nm ∧ R (pc + 3) ls (.int (if a < b then b else a) :: st) hp n
    | some (11, _) => popI st fun b st => popI st fun a st => roomy st ∧ n ≤ nm ∧ R (pc + 3) ls (.int (if b < a then b else a) :: st) hp n
    | some (12, _) => popI st fun a st => roomy st ∧ n ≤ nm ∧ R (pc + 3) ls (.int (if 0 ≤ a then a else 0 - a) :: st) hp n
    | _ => False)
  | .invokespecial i => (match mlk (moi y) i with
    | some (2, j) => mst j = false ∧ mrt j = none ∧ (mmn j).name = "<init>" ∧ mna j ≤ st.length ∧ popA (st.drop (mna j)) fun b rest => b < n ∧ mcall C nm R pc ls hp n j (.ref b :: (st.take (mna j)).reverse) rest
    | some (5, j) => mst j = false ∧ mrt j = none ∧ (mmn j).name = "<init>" ∧ mna j ≤ st.length ∧ popA (st.drop (mna j)) fun b rest => b < n ∧ mcall C nm R pc ls hp n j (.ref b :: (st.take (mna j)).reverse) rest
    | some (13, _) => popA st fun _ st => roomy st ∧ R (pc + 3) ls st hp n
    | _ => False)
  | .ireturn => (match st with
    | [.int v] => rok y v ∧ n = nm ∧ Q (some (.int v)) hp
    | _ => False)
  | .lreturn => (match st with
    | [.long v] => mrt y = some .long ∧ n = nm ∧ Q (some (.long v)) hp
    | _ => False)
  | .return_ => (match st with
    | [] => mrt y = none ∧ n = nm ∧ Q none hp
    | _ => False)
  | _ => False
def F (C : mC) (X : Option (Nat × (Nat → Int32))) (y nm : Nat) (R : mR) (Q : Option Value → mH → Prop) (pc : Nat) (ls st : List Value) (hp : mH) (n : Nat) : Prop := match mcd y pc with
  | some (i, len) => lenOk i len = true ∧ Fi C X y nm R Q pc ls st hp n i
  | none => False
def T (C : mC) (X : Option (Nat × (Nat → Int32))) (y nm : Nat) (pc : Nat) (ls st : List Value) (hp : mH) (n : Nat) (Q : Option Value → mH → Prop) : Prop :=
  ∀ R : mR, (∀ pc ls st hp n, F C X y nm R Q pc ls st hp n → R pc ls st hp n) → R pc ls st hp n
def mMono (C : mC) : Prop := ∀ j as hp n Q Q', (∀ v h, Q v h → Q' v h) → C j as hp n Q → C j as hp n Q'
theorem mcall_mono {C : mC} (hC : mMono C) {nm : Nat} {R R' : mR} (hR : ∀ pc ls st hp n, R pc ls st hp n → R' pc ls st hp n) {pc : Nat} {ls : List Value} {hp : mH} {n j : Nat} {as rest : List Value} (h : mcall C nm R pc ls hp n j as rest) : mcall C nm R' pc ls hp n j as rest :=
  ⟨h.1, h.2.1, h.2.2.1, hC _ _ _ _ _ _ (fun _ _ q => hR _ _ _ _ _ q) h.2.2.2⟩
set_option maxHeartbeats 4000000 in
theorem Fi_mono {C : mC} (hC : mMono C) {X : Option (Nat × (Nat → Int32))} {y nm : Nat} {R R' : mR} (hR : ∀ pc ls st hp n, R pc ls st hp n → R' pc ls st hp n) {Q : Option Value → mH → Prop} {pc : Nat} {ls st : List Value} {hp : mH} {n : Nat} (i : Instr) (h : Fi C X y nm R Q pc ls st hp n i) : Fi C X y nm R' Q pc ls st hp n i := by
  cases i
  all_goals first
    | exact h
    | exact hR _ _ _ _ _ h
    | exact getI_mono (fun _ q => hR _ _ _ _ _ q) h
    | exact getJ_mono (fun _ q => hR _ _ _ _ _ q) h
    | exact getA_mono (fun _ q => hR _ _ _ _ _ q) h
    | exact popI_mono (fun _ _ q => hR _ _ _ _ _ q) h
    | exact popJ_mono (fun _ _ q => hR _ _ _ _ _ q) h
    | exact popI_mono (fun _ _ q => ⟨q.1, hR _ _ _ _ _ q.2⟩) h
    | exact popJ_mono (fun _ _ q => ⟨q.1, hR _ _ _ _ _ q.2⟩) h
    | exact popA_mono (fun _ _ q => ⟨q.1, hR _ _ _ _ _ q.2⟩) h
    | exact pop1_mono (fun _ _ q => hR _ _ _ _ _ q) h
    | exact pop1_mono (fun _ _ q => pop1_mono (fun _ _ q => hR _ _ _ _ _ q) q) h
    | exact jmp_mono (fun _ q => hR _ _ _ _ _ q) h
    | exact popI_mono (fun _ _ q => popI_mono (fun _ _ q => hR _ _ _ _ _ q) q) h
    | exact popJ_mono (fun _ _ q => popJ_mono (fun _ _ q => hR _ _ _ _ _ q) q) h
    | exact popI_mono (fun _ _ q => popJ_mono (fun _ _ q => hR _ _ _ _ _ q) q) h
    | exact popI_mono (fun _ _ q => popI_mono (fun _ _ q => ⟨q.1, hR _ _ _ _ _ q.2⟩) q) h
    | exact popJ_mono (fun _ _ q => popJ_mono (fun _ _ q => ⟨q.1, hR _ _ _ _ _ q.2⟩) q) h
    | exact popI_mono (fun _ _ q => popI_mono (fun _ _ q => popA_mono (fun _ _ q => ⟨q.1, q.2.1, q.2.2.1, hR _ _ _ _ _ q.2.2.2⟩) q) q) h
    | exact popJ_mono (fun _ _ q => popI_mono (fun _ _ q => popA_mono (fun _ _ q => ⟨q.1, q.2.1, q.2.2.1, hR _ _ _ _ _ q.2.2.2⟩) q) q) h
    | exact popA_mono (fun _ _ q => popI_mono (fun _ _ q => popA_mono (fun _ _ q => ⟨q.1, q.2.1, q.2.2.1, q.2.2.2.1, hR _ _ _ _ _ q.2.2.2.2⟩) q) q) h
    | skip
  case ldc i =>
    simp only [Fi] at h ⊢
    split <;> simp_all
  case ldc_w i =>
    simp only [Fi] at h ⊢
    split <;> simp_all
  case ldc2_w i =>
    simp only [Fi] at h ⊢
    split <;> simp_all
  case if_icmp c off =>
    refine ⟨h.1, popI_mono (fun b st q => popI_mono (fun a st q => ?_) q) h.2⟩
    cases c <;> (dsimp only at q ⊢; split at q <;> rename_i hc <;> first | (rw [if_pos hc]; first | exact hR _ _ _ _ _ q | exact jmp_mono (fun _ q => hR _ _ _ _ _ q) q) | (rw [if_neg hc]; first | exact hR _ _ _ _ _ q | exact jmp_mono (fun _ q => hR _ _ _ _ _ q) q))
  case ifCond c off =>
    refine ⟨h.1, popI_mono (fun a st q => ?_) h.2⟩
    cases c <;> (dsimp only at q ⊢; split at q <;> rename_i hc <;> first | (rw [if_pos hc]; first | exact hR _ _ _ _ _ q | exact jmp_mono (fun _ q => hR _ _ _ _ _ q) q) | (rw [if_neg hc]; first | exact hR _ _ _ _ _ q | exact jmp_mono (fun _ q => hR _ _ _ _ _ q) q))
  case tableswitch d lo hi offs =>
    refine popI_mono (fun a st q => ?_) h
    split at q <;> rename_i hc
    · rw [if_pos hc]; exact jmp_mono (fun _ q => hR _ _ _ _ _ q) q
    · rw [if_neg hc]
      split at q
      · rename_i e; first | exact jmp_mono (fun _ q => hR _ _ _ _ _ q) q | (rw [e]; exact jmp_mono (fun _ q => hR _ _ _ _ _ q) q)
      · exact q.elim
  case getfield i =>
    refine popA_mono (fun a st q => ?_) h
    split at q
    · rename_i e; first | exact ⟨q.1, q.2.1, hR _ _ _ _ _ q.2.2⟩ | (rw [e]; exact ⟨q.1, q.2.1, hR _ _ _ _ _ q.2.2⟩)
    · exact q.elim
  case putfield i =>
    simp only [Fi] at h ⊢
    split at h
    · split at h
      · exact ⟨h.1, h.2.1, h.2.2.1, h.2.2.2.1, hR _ _ _ _ _ h.2.2.2.2⟩
      · exact h.elim
    · exact h.elim
  case getstatic i => exact ⟨h.1, hR _ _ _ _ _ h.2⟩
  case iaload =>
    refine popI_mono (fun b st q => popA_mono (fun a st q => ?_) q) h
    split at q <;> rename_i h1
    · rw [if_pos h1]; exact ⟨q.1, hR _ _ _ _ _ q.2⟩
    · rw [if_neg h1]
      split at q <;> rename_i h2
      · rw [if_pos h2]
        split at q
        · exact ⟨q.1, hR _ _ _ _ _ q.2⟩
        · exact q.elim
      · rw [if_neg h2]
        refine ⟨q.1, q.2.1, q.2.2.1, ?_⟩
        replace q := q.2.2.2
        split at q
        · rename_i e; first | exact hR _ _ _ _ _ q | (rw [e]; exact hR _ _ _ _ _ q)
        · exact q.elim
  case laload =>
    refine popI_mono (fun b st q => popA_mono (fun a st q => ?_) q) h
    refine ⟨q.1, q.2.1, q.2.2.1, ?_⟩
    replace q := q.2.2.2
    split at q
    · rename_i e; first | exact hR _ _ _ _ _ q | (rw [e]; exact hR _ _ _ _ _ q)
    · exact q.elim
  case aaload =>
    refine popI_mono (fun b st q => popA_mono (fun a st q => ?_) q) h
    refine ⟨q.1, q.2.1, q.2.2.1, ?_⟩
    replace q := q.2.2.2
    split at q
    · rename_i e; first | exact hR _ _ _ _ _ q | (rw [e]; exact hR _ _ _ _ _ q)
    · exact q.elim
  case arraylength =>
    refine popA_mono (fun a st q => ?_) h
    split at q <;> rename_i h1
    · rw [if_pos h1]
      split at q
      · exact hR _ _ _ _ _ q
      · exact q.elim
    · rw [if_neg h1]; exact ⟨q.1, q.2.1, hR _ _ _ _ _ q.2.2⟩
  case new i =>
    simp only [Fi] at h ⊢
    split at h
    · exact ⟨h.1, h.2.1, h.2.2.1, h.2.2.2.1, hR _ _ _ _ _ h.2.2.2.2⟩
    · exact h.elim
  case newarray t =>
    refine popI_mono (fun a st q => ?_) h
    refine ⟨q.1, q.2.1, q.2.2.1, q.2.2.2.1, ?_⟩
    replace q := q.2.2.2.2
    cases t <;> first | exact ⟨q.1, hR _ _ _ _ _ q.2⟩ | exact q.elim
  case anewarray i =>
    refine popI_mono (fun a st q => ?_) h
    refine ⟨q.1, q.2.1, q.2.2.1, q.2.2.2.1, ?_⟩
    replace q := q.2.2.2.2
    split at q
    · exact ⟨q.1, hR _ _ _ _ _ q.2⟩
    · exact ⟨q.1, hR _ _ _ _ _ q.2⟩
    · exact q.elim
  case invokevirtual i =>
    simp only [Fi] at h ⊢
    split at h
    · exact ⟨h.1, h.2.1, h.2.2.1, popA_mono (fun _ _ q => ⟨q.1, q.2.1, q.2.2.1, mcall_mono hC hR q.2.2.2⟩) h.2.2.2⟩
    · exact h.elim
  case invokestatic i =>
    simp only [Fi] at h ⊢
    split at h
    · exact ⟨h.1, h.2.1, mcall_mono hC hR h.2.2⟩
    · exact ⟨h.1, h.2.1, mcall_mono hC hR h.2.2⟩
    · exact popI_mono (fun _ _ q => popI_mono (fun _ _ q => popA_mono (fun _ _ q => popI_mono (fun _ _ q => popA_mono (fun _ _ q => ⟨q.1, q.2.1, q.2.2.1, q.2.2.2.1, q.2.2.2.2.1, q.2.2.2.2.2.1, q.2.2.2.2.2.2.1, q.2.2.2.2.2.2.2.1, q.2.2.2.2.2.2.2.2.1, hR _ _ _ _ _ q.2.2.2.2.2.2.2.2.2⟩) q) q) q) q) h
    · exact popI_mono (fun _ _ q => popI_mono (fun _ _ q => ⟨q.1, q.2.1, hR _ _ _ _ _ q.2.2⟩) q) h
    · exact popI_mono (fun _ _ q => popI_mono (fun _ _ q => ⟨q.1, q.2.1, hR _ _ _ _ _ q.2.2⟩) q) h
    · exact popI_mono (fun _ _ q => ⟨q.1, q.2.1, hR _ _ _ _ _ q.2.2⟩) h
    · exact h.elim
  case invokespecial i =>
    simp only [Fi] at h ⊢
    split at h
    · exact ⟨h.1, h.2.1, h.2.2.1, h.2.2.2.1, popA_mono (fun _ _ q => ⟨q.1, mcall_mono hC hR q.2⟩) h.2.2.2.2⟩
    · exact ⟨h.1, h.2.1, h.2.2.1, h.2.2.2.1, popA_mono (fun _ _ q => ⟨q.1, mcall_mono hC hR q.2⟩) h.2.2.2.2⟩
    · exact popA_mono (fun _ _ q => ⟨q.1, hR _ _ _ _ _ q.2⟩) h
    · exact h.elim
theorem F_mono {C : mC} (hC : mMono C) {X : Option (Nat × (Nat → Int32))} {y nm : Nat} {R R' : mR} (hR : ∀ pc ls st hp n, R pc ls st hp n → R' pc ls st hp n) {Q : Option Value → mH → Prop} {pc : Nat} {ls st : List Value} {hp : mH} {n : Nat} (h : F C X y nm R Q pc ls st hp n) : F C X y nm R' Q pc ls st hp n := by
  unfold F at h ⊢
  split at h
  · exact ⟨h.1, Fi_mono hC hR _ h.2⟩
  · exact h.elim
theorem T_fold {C : mC} (hC : mMono C) {X : Option (Nat × (Nat → Int32))} {y nm pc : Nat} {ls st : List Value} {hp : mH} {n : Nat} {Q : Option Value → mH → Prop} (h : F C X y nm (fun pc ls st hp n => T C X y nm pc ls st hp n Q) Q pc ls st hp n) : T C X y nm pc ls st hp n Q :=
  fun R hR => hR _ _ _ _ _ (F_mono hC (fun _ _ _ _ _ q => q R hR) h)
theorem T_eq {C : mC} (hC : mMono C) (X : Option (Nat × (Nat → Int32))) (y nm pc : Nat) (ls st : List Value) (hp : mH) (n : Nat) (Q : Option Value → mH → Prop) : T C X y nm pc ls st hp n Q = F C X y nm (fun pc ls st hp n => T C X y nm pc ls st hp n Q) Q pc ls st hp n :=
  propext ⟨fun h => h (fun pc ls st hp n => F C X y nm (fun pc ls st hp n => T C X y nm pc ls st hp n Q) Q pc ls st hp n) (fun _ _ _ _ _ q => F_mono hC (fun _ _ _ _ _ z => T_fold hC z) q), T_fold hC⟩
theorem T_i {C : mC} (hC : mMono C) {X : Option (Nat × (Nat → Int32))} {y nm pc : Nat} {ls st : List Value} {hp : mH} {n : Nat} {Q : Option Value → mH → Prop} {i : Instr} {len : Nat} (h : mcd y pc = some (i, len)) (hl : lenOk i len = true) : T C X y nm pc ls st hp n Q = Fi C X y nm (fun pc ls st hp n => T C X y nm pc ls st hp n Q) Q pc ls st hp n i := by
  rw [T_eq hC]
  unfold F
  rw [h]
  simp [hl]
theorem T_monoQ {C : mC} (hC : mMono C) {X : Option (Nat × (Nat → Int32))} {y nm pc : Nat} {ls st : List Value} {hp : mH} {n : Nat} {Q Q' : Option Value → mH → Prop} (hQ : ∀ v h, Q v h → Q' v h) (h : T C X y nm pc ls st hp n Q) : T C X y nm pc ls st hp n Q' := by
  refine h (fun pc ls st hp n => T C X y nm pc ls st hp n Q') ?_
  intro pc ls st hp n q
  refine T_fold hC ?_
  unfold F at q ⊢
  split at q
  · rename_i i len e0
    refine ⟨q.1, ?_⟩
    replace q := q.2
    clear e0
    cases i
    case ireturn =>
      simp only [Fi] at q ⊢
      split at q
      · exact ⟨q.1, q.2.1, hQ _ _ q.2.2⟩
      · exact q.elim
    case lreturn =>
      simp only [Fi] at q ⊢
      split at q
      · exact ⟨q.1, q.2.1, hQ _ _ q.2.2⟩
      · exact q.elim
    case return_ =>
      simp only [Fi] at q ⊢
      split at q
      · exact ⟨q.1, q.2.1, hQ _ _ q.2.2⟩
      · exact q.elim
    all_goals exact q
  · exact q.elim
/-- locals at a method's entry -/
def lexp : List Value → List Value
  | [] => []
  | .long x :: r => .long x :: mW :: lexp r
  | v :: r => v :: lexp r
def lent (m : Nat) (as : List Value) : List Value := lexp as ++ List.replicate (m - (lexp as).length) mU
def ndb : List Value → Bool
  | [] => true
  | .double _ :: _ => false
  | _ :: r => ndb r
theorem ndb_of : ∀ {as : List Value}, ndb as = true → ∀ v ∈ as, ∀ x, v ≠ .double x
  | [], _, v, h, _, _ => by cases h
  | w :: r, h, v, hv, x, e => by
    have h2 : ndb r = true ∧ ∀ z, w ≠ .double z := by
      cases w with
      | double z => cases h
      | _ => exact ⟨h, fun z q => by cases q⟩
    rcases List.mem_cons.mp hv with rfl | hv
    · exact h2.2 x e
    · exact ndb_of h2.1 v hv x e
def TM : Nat → mC
  | 0 => fun _ _ _ _ _ => False
  | d + 1 => fun j as hp n Q => (mok j = true ∧ (lexp as).length ≤ mml j ∧ n + mgr j ≤ 1000 ∧ ndb as = true) ∧ T (TM d) none j (n + mgr j) 0 (lent (mml j) as) [] hp n Q
theorem TM_mono : ∀ d, mMono (TM d)
  | 0 => fun _ _ _ _ _ _ _ h => h.elim
  | d + 1 => fun _ _ _ _ _ _ hQ h => ⟨h.1, T_monoQ (TM_mono d) hQ h.2⟩
theorem TM_eq {d j n : Nat} {as : List Value} {hp : mH} {Q : Option Value → mH → Prop} (h1 : mok j = true) (h2 : (lexp as).length ≤ mml j) (h3 : n + mgr j ≤ 1000) (h4 : ndb as = true) : TM (d + 1) j as hp n Q = T (TM d) none j (n + mgr j) 0 (lent (mml j) as) [] hp n Q :=
  propext ⟨fun h => h.2, fun h => ⟨⟨h1, h2, h3, h4⟩, h⟩⟩
