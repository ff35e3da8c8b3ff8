/-! THE SMALL MACHINE's HEAP, TYPED: ints and longs; references never change -/
abbrev mI : Type := Nat → Nat → Int32
abbrev mJ : Type := Nat → Nat → Int64
/-- what a slot holds: 0 an int, 1 a long, 2 a reference -/
def tyk (c k : Nat) : Nat := match c with
  | 0 => if k = 3 then 0 else 2
  | 1 => match k with
    | 4 => 0
    | 5 => 0
    | 6 => 0
    | 7 => 0
    | 9 => 0
    | 11 => 0
    | 14 => 0
    | _ => 2
  | 2 => if k < 8 then 0 else 2
  | 3 => if k < 2 then 0 else 2
  | 4 => if k = 0 then 2 else 1
  | 5 => match k with
    | 3 => 0
    | 5 => 0
    | 6 => 1
    | 7 => 1
    | 8 => 0
    | 12 => 0
    | 13 => 0
    | 14 => 0
    | _ => 2
  | 16 => 0
  | 17 => 1
  | _ => 2
def rvc (c q k : Nat) : Nat :=
  if c = 0 then (if k = 0 then 1 else if k = 1 then 37 else if k = 2 then 73 else 109)
  else if c = 1 then (if k = 0 then q + 1 else if k = 1 then q + 2 else if k = 2 then q + 3 else if k = 3 then q + 4 else if k = 8 then q + 5 else if k = 10 then q + 6 else if k = 12 then q + 7 else if k = 13 then q + 9 else if k = 15 then q + 10 else q + 11)
  else if c = 2 then (if k = 8 then q + 1 else q + 2)
  else if c = 5 then (if k = 0 then 119 else if k = 1 then 120 else if k = 2 then 121 else if k = 4 then 122 else if k = 9 then 123 else if k = 10 then 124 else 125)
  else if c = 18 then q + 7 + 3 * k
  else if c = 19 then 110 + 2 * k
  else q + 1
def rv (q k : Nat) : Nat := rvc (shp q).1 q k
theorem rv_of {q k c : Nat} (h : (shp q).1 = c) : rv q k = rvc c q k := by unfold rv; rw [h]
def mk (iv : mI) (jv : mJ) : mH := fun q k => match tyk (shp q).1 k with
  | 0 => .int (iv q k)
  | 1 => .long (jv q k)
  | _ => .ref (rv q k)
def upi (iv : mI) (q k : Nat) (x : Int32) : mI := fun a j => if a = q ∧ j = k then x else iv a j
def upj (jv : mJ) (q k : Nat) (x : Int64) : mJ := fun a j => if a = q ∧ j = k then x else jv a j
theorem mk_i {iv : mI} {jv : mJ} {q k : Nat} (h : tyk (shp q).1 k = 0) : mk iv jv q k = .int (iv q k) := by simp [mk, h]
theorem mk_j {iv : mI} {jv : mJ} {q k : Nat} (h : tyk (shp q).1 k = 1) : mk iv jv q k = .long (jv q k) := by simp [mk, h]
theorem mk_r {iv : mI} {jv : mJ} {q k : Nat} (h : tyk (shp q).1 k = 2) : mk iv jv q k = .ref (rv q k) := by simp [mk, h]
theorem mk_ui {iv : mI} {jv : mJ} {q k : Nat} {x : Int32} (h : tyk (shp q).1 k = 0) : mup (mk iv jv) q k (.int x) = mk (upi iv q k x) jv := by
  funext a j
  by_cases e : a = q ∧ j = k
  · obtain ⟨rfl, rfl⟩ := e
    simp [mup, mk, h, upi]
  · simp [mup, mk, upi, e]
theorem mk_uj {iv : mI} {jv : mJ} {q k : Nat} {x : Int64} (h : tyk (shp q).1 k = 1) : mup (mk iv jv) q k (.long x) = mk iv (upj jv q k x) := by
  funext a j
  by_cases e : a = q ∧ j = k
  · obtain ⟨rfl, rfl⟩ := e
    simp [mup, mk, h, upj]
  · simp [mup, mk, upj, e]
/-- copies of rows -/
def cpi (iv : mI) (a a0 sp dp n : Nat) : mI := fun q k => if q = a then (if dp ≤ k ∧ k < dp + n then iv a0 (sp + (k - dp)) else iv a k) else iv q k
def cpj (jv : mJ) (a a0 sp dp n : Nat) : mJ := fun q k => if q = a then (if dp ≤ k ∧ k < dp + n then jv a0 (sp + (k - dp)) else jv a k) else jv q k
theorem tyk_16 (k : Nat) : tyk 16 k = 0 := rfl
theorem tyk_17 (k : Nat) : tyk 17 k = 1 := rfl
theorem mk_ci {iv : mI} {jv : mJ} {a a0 sp dp n : Nat} (h : (shp a).1 = 16) (h0 : (shp a0).1 = 16) : mcpy (mk iv jv) a a0 sp dp n = mk (cpi iv a a0 sp dp n) jv := by
  funext q k
  by_cases e : q = a
  · subst e
    have e1 : ∀ k, mk iv jv q k = .int (iv q k) := fun k => mk_i (by rw [h]; rfl)
    have e2 : ∀ k, mk iv jv a0 k = .int (iv a0 k) := fun k => mk_i (by rw [h0]; rfl)
    rw [mk_i (by rw [h]; rfl)]
    simp only [mcpy, mrow, cpi, e1, e2, if_true]
    split <;> rfl
  · simp [mcpy, mrow, mk, cpi, e]
theorem mk_cj {iv : mI} {jv : mJ} {a a0 sp dp n : Nat} (h : (shp a).1 = 17) (h0 : (shp a0).1 = 17) : mcpy (mk iv jv) a a0 sp dp n = mk iv (cpj jv a a0 sp dp n) := by
  funext q k
  by_cases e : q = a
  · subst e
    have e1 : ∀ k, mk iv jv q k = .long (jv q k) := fun k => mk_j (by rw [h]; rfl)
    have e2 : ∀ k, mk iv jv a0 k = .long (jv a0 k) := fun k => mk_j (by rw [h0]; rfl)
    rw [mk_j (by rw [h]; rfl)]
    simp only [mcpy, mrow, cpj, e1, e2, if_true]
    split <;> rfl
  · simp [mcpy, mrow, mk, cpj, e]
theorem shp_lt {q : Nat} (h : (shp q).1 ≠ 999) : q < 126 := by
  unfold shp at h
  by_cases hq : q < 126
  · exact hq
  · exact absurd (by rw [List.getD_eq_getElem?_getD, List.getElem?_eq_none (by show 126 ≤ q; omega)]; rfl) h
def XT (d y pc : Nat) (ls st : List Value) (iv : mI) (jv : mJ) (Q : Option Value → mH → Prop) : Prop := T (TM d) none y 126 pc ls st (mk iv jv) 126 Q
def XM (d j : Nat) (as : List Value) (iv : mI) (jv : mJ) (Q : Option Value → mH → Prop) : Prop := TM d j as (mk iv jv) 126 Q
def XK (d y pc : Nat) (ls rest : List Value) (Q : Option Value → mH → Prop) : Option Value → mH → Prop := fun v hp => T (TM d) none y 126 pc ls (v.toList ++ rest) hp 126 Q
theorem XK_s {d y pc : Nat} {ls rest : List Value} {Q : Option Value → mH → Prop} {v : Value} {iv : mI} {jv : mJ} : XK d y pc ls rest Q (some v) (mk iv jv) = XT d y pc ls (v :: rest) iv jv Q := rfl
theorem XK_n {d y pc : Nat} {ls rest : List Value} {Q : Option Value → mH → Prop} {iv : mI} {jv : mJ} : XK d y pc ls rest Q none (mk iv jv) = XT d y pc ls rest iv jv Q := rfl
section EQS
variable {d y pc : Nat} {ls st : List Value} {iv : mI} {jv : mJ} {Q : Option Value → mH → Prop}
theorem XE {i : Instr} {len : Nat} (h : mcd y pc = some (i, len)) (hl : lenOk i len = true) : XT d y pc ls st iv jv Q = Fi (TM d) none y 126 (fun pc ls st hp n => T (TM d) none y 126 pc ls st hp n Q) Q pc ls st (mk iv jv) 126 i := T_i (TM_mono d) h hl
theorem E_iconst {v : Int} {w : Int32} (h : mcd y pc = some (.iconst v, 1)) (hw : Int32.ofInt v = w) : XT d y pc ls st iv jv Q = XT d y (pc + 1) ls (.int w :: st) iv jv Q := by subst hw; exact XE h rfl
theorem E_bipush {v : Int} {w : Int32} (h : mcd y pc = some (.bipush v, 2)) (hw : (Int8.ofInt v).toInt32 = w) : XT d y pc ls st iv jv Q = XT d y (pc + 2) ls (.int w :: st) iv jv Q := by subst hw; exact XE h rfl
theorem E_sipush {v : Int} {w : Int32} (h : mcd y pc = some (.sipush v, 3)) (hw : (Int16.ofInt v).toInt32 = w) : XT d y pc ls st iv jv Q = XT d y (pc + 3) ls (.int w :: st) iv jv Q := by subst hw; exact XE h rfl
theorem E_lconst {v : Fin 2} {w : Int64} (h : mcd y pc = some (.lconst v, 1)) (hw : Int64.ofNat v.val = w) : XT d y pc ls st iv jv Q = XT d y (pc + 1) ls (.long w :: st) iv jv Q := by subst hw; exact XE h rfl
theorem E_ldc {k : Nat} {w : Int32} (h : mcd y pc = some (.ldc k, 2)) (hw : mki (moi y) k = some w) : XT d y pc ls st iv jv Q = XT d y (pc + 2) ls (.int w :: st) iv jv Q := by rw [XE h rfl]; simp only [Fi, hw]; rfl
theorem E_ldc_w {k : Nat} {w : Int32} (h : mcd y pc = some (.ldc_w k, 3)) (hw : mki (moi y) k = some w) : XT d y pc ls st iv jv Q = XT d y (pc + 3) ls (.int w :: st) iv jv Q := by rw [XE h rfl]; simp only [Fi, hw]; rfl
theorem E_ldc2_w {k : Nat} {w : Int64} (h : mcd y pc = some (.ldc2_w k, 3)) (hw : mkj (moi y) k = some w) : XT d y pc ls st iv jv Q = XT d y (pc + 3) ls (.long w :: st) iv jv Q := by rw [XE h rfl]; simp only [Fi, hw]; rfl
theorem E_iload_n {k : Fin 4} {x : Int32} (h : mcd y pc = some (.iload_n k, 1)) (hw : ls[k.val]? = some (.int x)) : XT d y pc ls st iv jv Q = XT d y (pc + 1) ls (.int x :: st) iv jv Q := by rw [XE h rfl]; simp only [Fi, getI, hw]; rfl
theorem E_iload {k : Nat} {x : Int32} (h : mcd y pc = some (.iload k, 2)) (hw : ls[k]? = some (.int x)) : XT d y pc ls st iv jv Q = XT d y (pc + 2) ls (.int x :: st) iv jv Q := by rw [XE h rfl]; simp only [Fi, getI, hw]; rfl
theorem E_lload_n {k : Fin 4} {x : Int64} (h : mcd y pc = some (.lload_n k, 1)) (hw : ls[k.val]? = some (.long x)) (hw2 : ls[k.val + 1]? = some mW) : XT d y pc ls st iv jv Q = XT d y (pc + 1) ls (.long x :: st) iv jv Q := by rw [XE h rfl]; simp only [Fi, getJ, hw, hw2, true_and]; rfl
theorem E_lload {k : Nat} {x : Int64} (h : mcd y pc = some (.lload k, 2)) (hw : ls[k]? = some (.long x)) (hw2 : ls[k + 1]? = some mW) : XT d y pc ls st iv jv Q = XT d y (pc + 2) ls (.long x :: st) iv jv Q := by rw [XE h rfl]; simp only [Fi, getJ, hw, hw2, true_and]; rfl
theorem E_aload_n {k : Fin 4} {x : Nat} (h : mcd y pc = some (.aload_n k, 1)) (hw : ls[k.val]? = some (.ref x)) : XT d y pc ls st iv jv Q = XT d y (pc + 1) ls (.ref x :: st) iv jv Q := by rw [XE h rfl]; simp only [Fi, getA, hw]; rfl
theorem E_aload {k : Nat} {x : Nat} (h : mcd y pc = some (.aload k, 2)) (hw : ls[k]? = some (.ref x)) : XT d y pc ls st iv jv Q = XT d y (pc + 2) ls (.ref x :: st) iv jv Q := by rw [XE h rfl]; simp only [Fi, getA, hw]; rfl
theorem E_istore_n {k : Fin 4} {x : Int32} {ls' : List Value} (h : mcd y pc = some (.istore_n k, 1)) (hk : k.val < ls.length) (he : ls.set k.val (.int x) = ls') : XT d y pc ls (.int x :: st) iv jv Q = XT d y (pc + 1) ls' st iv jv Q := by subst he; rw [XE h rfl]; simp only [Fi, popI, hk, true_and]; rfl
theorem E_istore {k : Nat} {x : Int32} {ls' : List Value} (h : mcd y pc = some (.istore k, 2)) (hk : k < ls.length) (he : ls.set k (.int x) = ls') : XT d y pc ls (.int x :: st) iv jv Q = XT d y (pc + 2) ls' st iv jv Q := by subst he; rw [XE h rfl]; simp only [Fi, popI, hk, true_and]; rfl
theorem E_lstore_n {k : Fin 4} {x : Int64} {ls' : List Value} (h : mcd y pc = some (.lstore_n k, 1)) (hk : k.val + 1 < ls.length) (he : (ls.set k.val (.long x)).set (k.val + 1) mW = ls') : XT d y pc ls (.long x :: st) iv jv Q = XT d y (pc + 1) ls' st iv jv Q := by subst he; rw [XE h rfl]; simp only [Fi, popJ, hk, true_and]; rfl
theorem E_lstore {k : Nat} {x : Int64} {ls' : List Value} (h : mcd y pc = some (.lstore k, 2)) (hk : k + 1 < ls.length) (he : (ls.set k (.long x)).set (k + 1) mW = ls') : XT d y pc ls (.long x :: st) iv jv Q = XT d y (pc + 2) ls' st iv jv Q := by subst he; rw [XE h rfl]; simp only [Fi, popJ, hk, true_and]; rfl
theorem E_astore_n {k : Fin 4} {x : Nat} {ls' : List Value} (h : mcd y pc = some (.astore_n k, 1)) (hk : k.val < ls.length) (he : ls.set k.val (.ref x) = ls') : XT d y pc ls (.ref x :: st) iv jv Q = XT d y (pc + 1) ls' st iv jv Q := by subst he; rw [XE h rfl]; simp only [Fi, popA, hk, true_and]; rfl
theorem E_astore {k : Nat} {x : Nat} {ls' : List Value} (h : mcd y pc = some (.astore k, 2)) (hk : k < ls.length) (he : ls.set k (.ref x) = ls') : XT d y pc ls (.ref x :: st) iv jv Q = XT d y (pc + 2) ls' st iv jv Q := by subst he; rw [XE h rfl]; simp only [Fi, popA, hk, true_and]; rfl
theorem E_iinc {k : Nat} {v : Int} {x w : Int32} {ls' : List Value} (h : mcd y pc = some (.iinc k v, 3)) (hx : ls[k]? = some (.int x)) (hw : Int32.ofInt v = w) (he : ls.set k (.int (x + w)) = ls') : XT d y pc ls st iv jv Q = XT d y (pc + 3) ls' st iv jv Q := by subst hw; subst he; rw [XE h rfl]; simp only [Fi, getI, hx]; rfl
theorem E_dup {a : Value} (h : mcd y pc = some (.dup, 1)) (hc : a.category = 1) : XT d y pc ls (a :: st) iv jv Q = XT d y (pc + 1) ls (a :: a :: st) iv jv Q := by rw [XE h rfl]; simp only [Fi, pop1, hc, true_and]; rfl
theorem E_pop {a : Value} (h : mcd y pc = some (.pop, 1)) (hc : a.category = 1) : XT d y pc ls (a :: st) iv jv Q = XT d y (pc + 1) ls st iv jv Q := by rw [XE h rfl]; simp only [Fi, pop1, hc, true_and]; rfl
theorem E_dup_x1 {a b : Value} (h : mcd y pc = some (.dup_x1, 1)) (hc : a.category = 1) (hb : b.category = 1) : XT d y pc ls (a :: b :: st) iv jv Q = XT d y (pc + 1) ls (a :: b :: a :: st) iv jv Q := by rw [XE h rfl]; simp only [Fi, pop1, hc, hb, true_and]; rfl
theorem E_dup2 {a b : Value} (h : mcd y pc = some (.dup2, 1)) (hc : a.category = 1) (hb : b.category = 1) : XT d y pc ls (a :: b :: st) iv jv Q = XT d y (pc + 1) ls (a :: b :: a :: b :: st) iv jv Q := by rw [XE h rfl]; simp only [Fi, pop1, hc, hb, true_and]; rfl
theorem E_goto {off : Int} {tgt : Nat} (h : mcd y pc = some (.goto off, 3)) (ht : (pc : Int) + off = (tgt : Int)) : XT d y pc ls st iv jv Q = XT d y tgt ls st iv jv Q := by rw [XE h rfl]; simp only [Fi, jmp_eq _ ht]; rfl
theorem E_i2b {a : Int32} (h : mcd y pc = some (.i2b, 1)) : XT d y pc ls (.int a :: st) iv jv Q = XT d y (pc + 1) ls (.int a.toInt8.toInt32 :: st) iv jv Q := XE h rfl
theorem E_i2l {a : Int32} (h : mcd y pc = some (.i2l, 1)) : XT d y pc ls (.int a :: st) iv jv Q = XT d y (pc + 1) ls (.long a.toInt64 :: st) iv jv Q := XE h rfl
theorem E_l2i {a : Int64} (h : mcd y pc = some (.l2i, 1)) : XT d y pc ls (.long a :: st) iv jv Q = XT d y (pc + 1) ls (.int a.toInt32 :: st) iv jv Q := XE h rfl
theorem E_iadd {a b : Int32} (h : mcd y pc = some (.iadd, 1)) : XT d y pc ls (.int b :: .int a :: st) iv jv Q = XT d y (pc + 1) ls (.int (a + b) :: st) iv jv Q := XE h rfl
theorem E_isub {a b : Int32} (h : mcd y pc = some (.isub, 1)) : XT d y pc ls (.int b :: .int a :: st) iv jv Q = XT d y (pc + 1) ls (.int (a - b) :: st) iv jv Q := XE h rfl
theorem E_imul {a b : Int32} (h : mcd y pc = some (.imul, 1)) : XT d y pc ls (.int b :: .int a :: st) iv jv Q = XT d y (pc + 1) ls (.int (a * b) :: st) iv jv Q := XE h rfl
theorem E_iand {a b : Int32} (h : mcd y pc = some (.iand, 1)) : XT d y pc ls (.int b :: .int a :: st) iv jv Q = XT d y (pc + 1) ls (.int (a &&& b) :: st) iv jv Q := XE h rfl
theorem E_ior {a b : Int32} (h : mcd y pc = some (.ior, 1)) : XT d y pc ls (.int b :: .int a :: st) iv jv Q = XT d y (pc + 1) ls (.int (a ||| b) :: st) iv jv Q := XE h rfl
theorem E_ixor {a b : Int32} (h : mcd y pc = some (.ixor, 1)) : XT d y pc ls (.int b :: .int a :: st) iv jv Q = XT d y (pc + 1) ls (.int (a ^^^ b) :: st) iv jv Q := XE h rfl
theorem E_ishl {a b : Int32} (h : mcd y pc = some (.ishl, 1)) : XT d y pc ls (.int b :: .int a :: st) iv jv Q = XT d y (pc + 1) ls (.int (a <<< (b &&& 31)) :: st) iv jv Q := XE h rfl
theorem E_ishr {a b : Int32} (h : mcd y pc = some (.ishr, 1)) : XT d y pc ls (.int b :: .int a :: st) iv jv Q = XT d y (pc + 1) ls (.int (a >>> (b &&& 31)) :: st) iv jv Q := XE h rfl
theorem E_iushr {a b : Int32} (h : mcd y pc = some (.iushr, 1)) : XT d y pc ls (.int b :: .int a :: st) iv jv Q = XT d y (pc + 1) ls (.int (a.toUInt32 >>> (b.toUInt32 &&& Int32.toUInt32 31)).toInt32 :: st) iv jv Q := XE h rfl
theorem E_idiv {a b : Int32} (h : mcd y pc = some (.idiv, 1)) : XT d y pc ls (.int b :: .int a :: st) iv jv Q = (¬ b = 0 ∧ XT d y (pc + 1) ls (.int (a / b) :: st) iv jv Q) := XE h rfl
theorem E_irem {a b : Int32} (h : mcd y pc = some (.irem, 1)) : XT d y pc ls (.int b :: .int a :: st) iv jv Q = (¬ b = 0 ∧ XT d y (pc + 1) ls (.int (a - a / b * b) :: st) iv jv Q) := XE h rfl
theorem E_ineg {a : Int32} (h : mcd y pc = some (.ineg, 1)) : XT d y pc ls (.int a :: st) iv jv Q = XT d y (pc + 1) ls (.int (-a) :: st) iv jv Q := XE h rfl
theorem E_ladd {a b : Int64} (h : mcd y pc = some (.ladd, 1)) : XT d y pc ls (.long b :: .long a :: st) iv jv Q = XT d y (pc + 1) ls (.long (a + b) :: st) iv jv Q := XE h rfl
theorem E_lsub {a b : Int64} (h : mcd y pc = some (.lsub, 1)) : XT d y pc ls (.long b :: .long a :: st) iv jv Q = XT d y (pc + 1) ls (.long (a - b) :: st) iv jv Q := XE h rfl
theorem E_lmul {a b : Int64} (h : mcd y pc = some (.lmul, 1)) : XT d y pc ls (.long b :: .long a :: st) iv jv Q = XT d y (pc + 1) ls (.long (a * b) :: st) iv jv Q := XE h rfl
theorem E_land {a b : Int64} (h : mcd y pc = some (.land, 1)) : XT d y pc ls (.long b :: .long a :: st) iv jv Q = XT d y (pc + 1) ls (.long (a &&& b) :: st) iv jv Q := XE h rfl
theorem E_lor {a b : Int64} (h : mcd y pc = some (.lor, 1)) : XT d y pc ls (.long b :: .long a :: st) iv jv Q = XT d y (pc + 1) ls (.long (a ||| b) :: st) iv jv Q := XE h rfl
theorem E_ldiv {a b : Int64} (h : mcd y pc = some (.ldiv, 1)) : XT d y pc ls (.long b :: .long a :: st) iv jv Q = (¬ b = 0 ∧ XT d y (pc + 1) ls (.long (a / b) :: st) iv jv Q) := XE h rfl
theorem E_lrem {a b : Int64} (h : mcd y pc = some (.lrem, 1)) : XT d y pc ls (.long b :: .long a :: st) iv jv Q = (¬ b = 0 ∧ XT d y (pc + 1) ls (.long (a - a / b * b) :: st) iv jv Q) := XE h rfl
theorem E_lshl {a : Int64} {b : Int32} (h : mcd y pc = some (.lshl, 1)) : XT d y pc ls (.int b :: .long a :: st) iv jv Q = XT d y (pc + 1) ls (.long (a <<< (b.toInt64 &&& 63)) :: st) iv jv Q := XE h rfl
theorem E_lshr {a : Int64} {b : Int32} (h : mcd y pc = some (.lshr, 1)) : XT d y pc ls (.int b :: .long a :: st) iv jv Q = XT d y (pc + 1) ls (.long (a >>> (b.toInt64 &&& 63)) :: st) iv jv Q := XE h rfl
theorem E_lcmp {a b : Int64} (h : mcd y pc = some (.lcmp, 1)) : XT d y pc ls (.long b :: .long a :: st) iv jv Q = XT d y (pc + 1) ls (.int (lg_cmp a b) :: st) iv jv Q := XE h rfl
theorem E_icmp_eq {off : Int} {tgt : Nat} {a b : Int32} (h : mcd y pc = some (.if_icmp .eq off, 3)) (ht : (pc : Int) + off = (tgt : Int)) : XT d y pc ls (.int b :: .int a :: st) iv jv Q = if a = b then XT d y tgt ls st iv jv Q else XT d y (pc + 3) ls st iv jv Q := by
  rw [XE h rfl]; simp only [Fi, popI, jmp_eq _ ht, show 0 ≤ (pc : Int) + off by omega, true_and]; rfl
theorem E_icmp_ne {off : Int} {tgt : Nat} {a b : Int32} (h : mcd y pc = some (.if_icmp .ne off, 3)) (ht : (pc : Int) + off = (tgt : Int)) : XT d y pc ls (.int b :: .int a :: st) iv jv Q = if a = b then XT d y (pc + 3) ls st iv jv Q else XT d y tgt ls st iv jv Q := by
  rw [XE h rfl]; simp only [Fi, popI, jmp_eq _ ht, show 0 ≤ (pc : Int) + off by omega, true_and]; rfl
theorem E_icmp_lt {off : Int} {tgt : Nat} {a b : Int32} (h : mcd y pc = some (.if_icmp .lt off, 3)) (ht : (pc : Int) + off = (tgt : Int)) : XT d y pc ls (.int b :: .int a :: st) iv jv Q = if a < b then XT d y tgt ls st iv jv Q else XT d y (pc + 3) ls st iv jv Q := by
  rw [XE h rfl]; simp only [Fi, popI, jmp_eq _ ht, show 0 ≤ (pc : Int) + off by omega, true_and]; rfl
theorem E_icmp_ge {off : Int} {tgt : Nat} {a b : Int32} (h : mcd y pc = some (.if_icmp .ge off, 3)) (ht : (pc : Int) + off = (tgt : Int)) : XT d y pc ls (.int b :: .int a :: st) iv jv Q = if b ≤ a then XT d y tgt ls st iv jv Q else XT d y (pc + 3) ls st iv jv Q := by
  rw [XE h rfl]; simp only [Fi, popI, jmp_eq _ ht, show 0 ≤ (pc : Int) + off by omega, true_and]; rfl
theorem E_icmp_gt {off : Int} {tgt : Nat} {a b : Int32} (h : mcd y pc = some (.if_icmp .gt off, 3)) (ht : (pc : Int) + off = (tgt : Int)) : XT d y pc ls (.int b :: .int a :: st) iv jv Q = if b < a then XT d y tgt ls st iv jv Q else XT d y (pc + 3) ls st iv jv Q := by
  rw [XE h rfl]; simp only [Fi, popI, jmp_eq _ ht, show 0 ≤ (pc : Int) + off by omega, true_and]; rfl
theorem E_icmp_le {off : Int} {tgt : Nat} {a b : Int32} (h : mcd y pc = some (.if_icmp .le off, 3)) (ht : (pc : Int) + off = (tgt : Int)) : XT d y pc ls (.int b :: .int a :: st) iv jv Q = if a ≤ b then XT d y tgt ls st iv jv Q else XT d y (pc + 3) ls st iv jv Q := by
  rw [XE h rfl]; simp only [Fi, popI, jmp_eq _ ht, show 0 ≤ (pc : Int) + off by omega, true_and]; rfl
theorem E_if_eq {off : Int} {tgt : Nat} {a : Int32} (h : mcd y pc = some (.ifCond .eq off, 3)) (ht : (pc : Int) + off = (tgt : Int)) : XT d y pc ls (.int a :: st) iv jv Q = if a = nI 0 then XT d y tgt ls st iv jv Q else XT d y (pc + 3) ls st iv jv Q := by
  rw [XE h rfl]; simp only [Fi, popI, jmp_eq _ ht, show 0 ≤ (pc : Int) + off by omega, true_and]; rfl
theorem E_if_ne {off : Int} {tgt : Nat} {a : Int32} (h : mcd y pc = some (.ifCond .ne off, 3)) (ht : (pc : Int) + off = (tgt : Int)) : XT d y pc ls (.int a :: st) iv jv Q = if a = nI 0 then XT d y (pc + 3) ls st iv jv Q else XT d y tgt ls st iv jv Q := by
  rw [XE h rfl]; simp only [Fi, popI, jmp_eq _ ht, show 0 ≤ (pc : Int) + off by omega, true_and]; rfl
theorem E_if_lt {off : Int} {tgt : Nat} {a : Int32} (h : mcd y pc = some (.ifCond .lt off, 3)) (ht : (pc : Int) + off = (tgt : Int)) : XT d y pc ls (.int a :: st) iv jv Q = if a < nI 0 then XT d y tgt ls st iv jv Q else XT d y (pc + 3) ls st iv jv Q := by
  rw [XE h rfl]; simp only [Fi, popI, jmp_eq _ ht, show 0 ≤ (pc : Int) + off by omega, true_and]; rfl
theorem E_if_ge {off : Int} {tgt : Nat} {a : Int32} (h : mcd y pc = some (.ifCond .ge off, 3)) (ht : (pc : Int) + off = (tgt : Int)) : XT d y pc ls (.int a :: st) iv jv Q = if nI 0 ≤ a then XT d y tgt ls st iv jv Q else XT d y (pc + 3) ls st iv jv Q := by
  rw [XE h rfl]; simp only [Fi, popI, jmp_eq _ ht, show 0 ≤ (pc : Int) + off by omega, true_and]; rfl
theorem E_if_gt {off : Int} {tgt : Nat} {a : Int32} (h : mcd y pc = some (.ifCond .gt off, 3)) (ht : (pc : Int) + off = (tgt : Int)) : XT d y pc ls (.int a :: st) iv jv Q = if nI 0 < a then XT d y tgt ls st iv jv Q else XT d y (pc + 3) ls st iv jv Q := by
  rw [XE h rfl]; simp only [Fi, popI, jmp_eq _ ht, show 0 ≤ (pc : Int) + off by omega, true_and]; rfl
theorem E_if_le {off : Int} {tgt : Nat} {a : Int32} (h : mcd y pc = some (.ifCond .le off, 3)) (ht : (pc : Int) + off = (tgt : Int)) : XT d y pc ls (.int a :: st) iv jv Q = if a ≤ nI 0 then XT d y tgt ls st iv jv Q else XT d y (pc + 3) ls st iv jv Q := by
  rw [XE h rfl]; simp only [Fi, popI, jmp_eq _ ht, show 0 ≤ (pc : Int) + off by omega, true_and]; rfl
theorem E_swOut {df lo hi : Int} {offs : Array Int} {len tgt : Nat} {a : Int32} (h : mcd y pc = some (.tableswitch df lo hi offs, len)) (ht : (pc : Int) + df = (tgt : Int)) (ha : a.toInt < lo ∨ hi < a.toInt) : XT d y pc ls (.int a :: st) iv jv Q = XT d y tgt ls st iv jv Q := by
  rw [XE h rfl]; simp only [Fi, popI, ha, if_true, jmp_eq _ ht]; rfl
theorem E_swIn {df lo hi off : Int} {offs : Array Int} {len tgt : Nat} {a : Int32} (h : mcd y pc = some (.tableswitch df lo hi offs, len)) (ha : ¬ (a.toInt < lo ∨ hi < a.toInt)) (ho : offs[(a.toInt - lo).toNat]? = some off) (ht : (pc : Int) + off = (tgt : Int)) : XT d y pc ls (.int a :: st) iv jv Q = XT d y tgt ls st iv jv Q := by
  rw [XE h rfl]; simp only [Fi, popI, ha, if_false, ho, jmp_eq _ ht]; rfl
theorem E_get {k c f : Nat} {q : Nat} (h : mcd y pc = some (.getfield k, 3)) (hf : mfk (moi y) k = some (c, f)) (hc : c ≠ 999) : XT d y pc ls (.ref q :: st) iv jv Q = (shp q = (c, mnf c) ∧ XT d y (pc + 3) ls (mk iv jv q f :: st) iv jv Q) := by
  rw [XE h rfl]; simp only [Fi, popA, hf]
  refine propext ⟨fun z => z.2, fun z => ⟨shp_lt (by rw [z.1]; exact hc), z⟩⟩
theorem E_getI {k c f : Nat} {q : Nat} (h : mcd y pc = some (.getfield k, 3)) (hf : mfk (moi y) k = some (c, f)) (hc : c ≠ 999) (ht : tyk c f = 0) : XT d y pc ls (.ref q :: st) iv jv Q = (shp q = (c, mnf c) ∧ XT d y (pc + 3) ls (.int (iv q f) :: st) iv jv Q) := by
  rw [E_get h hf hc]
  refine propext (and_congr_right fun z => ?_)
  rw [mk_i (by rw [z]; exact ht)]
theorem E_getJ {k c f : Nat} {q : Nat} (h : mcd y pc = some (.getfield k, 3)) (hf : mfk (moi y) k = some (c, f)) (hc : c ≠ 999) (ht : tyk c f = 1) : XT d y pc ls (.ref q :: st) iv jv Q = (shp q = (c, mnf c) ∧ XT d y (pc + 3) ls (.long (jv q f) :: st) iv jv Q) := by
  rw [E_get h hf hc]
  refine propext (and_congr_right fun z => ?_)
  rw [mk_j (by rw [z]; exact ht)]
theorem E_getA {k c f : Nat} {q r : Nat} (h : mcd y pc = some (.getfield k, 3)) (hf : mfk (moi y) k = some (c, f)) (hc : c ≠ 999) (ht : tyk c f = 2) (hr : shp q = (c, mnf c) → rv q f = r) : XT d y pc ls (.ref q :: st) iv jv Q = (shp q = (c, mnf c) ∧ XT d y (pc + 3) ls (.ref r :: st) iv jv Q) := by
  rw [E_get h hf hc]
  refine propext (and_congr_right fun z => ?_)
  rw [mk_r (by rw [z]; exact ht), hr z]
theorem E_putI {k c f : Nat} {q : Nat} {x : Int32} (h : mcd y pc = some (.putfield k, 3)) (hf : mfk (moi y) k = some (c, f)) (hc : c ≠ 999) (ht : tyk c f = 0) (hty : mtyp c f = .int) (hfin : (mT c f).2.2.2 = false) : XT d y pc ls (.int x :: .ref q :: st) iv jv Q = (shp q = (c, mnf c) ∧ XT d y (pc + 3) ls st (upi iv q f x) jv Q) := by
  rw [XE h rfl]; simp only [Fi, hf, hty, vok, hfin, true_and, Bool.false_eq_true, false_implies]
  refine propext ⟨fun z => ⟨z.2.1, ?_⟩, fun z => ⟨shp_lt (by rw [z.1]; exact hc), z.1, ?_⟩⟩
  · have h1 := z.2.2; rw [mk_ui (by rw [z.2.1]; exact ht)] at h1; exact h1
  · rw [mk_ui (by rw [z.1]; exact ht)]; exact z.2
theorem E_putZ {k c f : Nat} {q : Nat} {x : Int32} (h : mcd y pc = some (.putfield k, 3)) (hf : mfk (moi y) k = some (c, f)) (hc : c ≠ 999) (ht : tyk c f = 0) (hty : mtyp c f = .boolean) (hfin : (mT c f).2.2.2 = false) : XT d y pc ls (.int x :: .ref q :: st) iv jv Q = (shp q = (c, mnf c) ∧ (x = nI 0 ∨ x = nI 1) ∧ XT d y (pc + 3) ls st (upi iv q f x) jv Q) := by
  rw [XE h rfl]; simp only [Fi, hf, hty, vok, hfin, true_and, Bool.false_eq_true, false_implies]
  refine propext ⟨fun z => ⟨z.2.1, z.2.2.1, ?_⟩, fun z => ⟨shp_lt (by rw [z.1]; exact hc), z.1, z.2.1, ?_⟩⟩
  · have h1 := z.2.2.2; rw [mk_ui (by rw [z.2.1]; exact ht)] at h1; exact h1
  · rw [mk_ui (by rw [z.1]; exact ht)]; exact z.2.2
theorem E_putJ {k c f : Nat} {q : Nat} {x : Int64} (h : mcd y pc = some (.putfield k, 3)) (hf : mfk (moi y) k = some (c, f)) (hc : c ≠ 999) (ht : tyk c f = 1) (hty : mtyp c f = .long) (hfin : (mT c f).2.2.2 = false) : XT d y pc ls (.long x :: .ref q :: st) iv jv Q = (shp q = (c, mnf c) ∧ XT d y (pc + 3) ls st iv (upj jv q f x) Q) := by
  rw [XE h rfl]; simp only [Fi, hf, hty, vok, hfin, true_and, Bool.false_eq_true, false_implies]
  refine propext ⟨fun z => ⟨z.2.1, ?_⟩, fun z => ⟨shp_lt (by rw [z.1]; exact hc), z.1, ?_⟩⟩
  · have h1 := z.2.2; rw [mk_uj (by rw [z.2.1]; exact ht)] at h1; exact h1
  · rw [mk_uj (by rw [z.1]; exact ht)]; exact z.2
theorem E_getstatic {k : Nat} (h : mcd y pc = some (.getstatic k, 3)) (hm : msf (moi y) k = true) : XT d y pc ls st iv jv Q = XT d y (pc + 3) ls (.ref 1001 :: st) iv jv Q := by
  rw [XE h rfl]; simp only [Fi, hm, true_and]; rfl
theorem E_iald {i : Int32} {q : Nat} (h : mcd y pc = some (.iaload, 1)) (hq : q < 1000) : XT d y pc ls (.int i :: .ref q :: st) iv jv Q = ((shp q).1 = 16 ∧ vp_in i (shp q).2 ∧ XT d y (pc + 1) ls (.int (iv q i.toNatClampNeg) :: st) iv jv Q) := by
  rw [XE h rfl]; simp only [Fi, popI, popA]
  rw [if_neg (by omega), if_neg (by omega)]
  refine propext ⟨fun z => ⟨z.2.1, z.2.2.1, ?_⟩, fun z => ⟨shp_lt (by rw [z.1]; decide), z.1, z.2.1, ?_⟩⟩
  · have h1 := z.2.2.2; rw [mk_i (by rw [z.2.1]; rfl)] at h1; exact h1
  · rw [mk_i (by rw [z.1]; rfl)]; exact z.2.2
theorem E_iald' {i : Int32} {q : Nat} (h : mcd y pc = some (.iaload, 1)) : XT d y pc ls (.int i :: .ref q :: st) iv jv Q = if q = 1001 then vp_in i 6 ∧ XT d y (pc + 1) ls (.int (abv i.toNatClampNeg) :: st) iv jv Q else ((shp q).1 = 16 ∧ vp_in i (shp q).2 ∧ XT d y (pc + 1) ls (.int (iv q i.toNatClampNeg) :: st) iv jv Q) := by
  by_cases e : q = 1001
  · rw [if_pos e, XE h rfl]; simp only [Fi, popI, popA]
    rw [if_pos e]; rfl
  · rw [if_neg e]
    by_cases e2 : q < 1000
    · exact E_iald h e2
    · rw [XE h rfl]; simp only [Fi, popI, popA]
      rw [if_neg e]
      have h0 : (shp q).1 = 16 → False := fun z => by have := shp_lt (q := q) (by rw [z]; decide); omega
      refine propext ⟨fun z => ?_, fun z => (h0 z.1).elim⟩
      split at z
      · exact z.elim
      · exact (h0 z.2.1).elim
theorem E_lald {i : Int32} {q : Nat} (h : mcd y pc = some (.laload, 1)) : XT d y pc ls (.int i :: .ref q :: st) iv jv Q = ((shp q).1 = 17 ∧ vp_in i (shp q).2 ∧ XT d y (pc + 1) ls (.long (jv q i.toNatClampNeg) :: st) iv jv Q) := by
  rw [XE h rfl]; simp only [Fi, popI, popA]
  refine propext ⟨fun z => ⟨z.2.1, z.2.2.1, ?_⟩, fun z => ⟨shp_lt (by rw [z.1]; decide), z.1, z.2.1, ?_⟩⟩
  · have h1 := z.2.2.2; rw [mk_j (by rw [z.2.1]; rfl)] at h1; exact h1
  · rw [mk_j (by rw [z.1]; rfl)]; exact z.2.2
theorem E_aald {i : Int32} {q : Nat} (h : mcd y pc = some (.aaload, 1)) : XT d y pc ls (.int i :: .ref q :: st) iv jv Q = (((shp q).1 = 18 ∨ (shp q).1 = 19) ∧ vp_in i (shp q).2 ∧ XT d y (pc + 1) ls (.ref (rv q i.toNatClampNeg) :: st) iv jv Q) := by
  rw [XE h rfl]; simp only [Fi, popI, popA]
  have key : ((shp q).1 = 18 ∨ (shp q).1 = 19) → mk iv jv q i.toNatClampNeg = .ref (rv q i.toNatClampNeg) := fun z => by
    rcases z with z | z <;> exact mk_r (by rw [z]; rfl)
  refine propext ⟨fun z => ⟨z.2.1, z.2.2.1, ?_⟩, fun z => ⟨shp_lt (by rcases z.1 with e | e <;> (rw [e]; decide)), z.1, z.2.1, ?_⟩⟩
  · have h1 := z.2.2.2; rw [key z.2.1] at h1; exact h1
  · rw [key z.1]; exact z.2.2
theorem E_iast {x i : Int32} {q : Nat} (h : mcd y pc = some (.iastore, 1)) : XT d y pc ls (.int x :: .int i :: .ref q :: st) iv jv Q = ((shp q).1 = 16 ∧ vp_in i (shp q).2 ∧ XT d y (pc + 1) ls st (upi iv q i.toNatClampNeg x) jv Q) := by
  rw [XE h rfl]; simp only [Fi, popI, popA]
  refine propext ⟨fun z => ⟨z.2.1, z.2.2.1, ?_⟩, fun z => ⟨shp_lt (by rw [z.1]; decide), z.1, z.2.1, ?_⟩⟩
  · have h1 := z.2.2.2; rw [mk_ui (by rw [z.2.1]; rfl)] at h1; exact h1
  · rw [mk_ui (by rw [z.1]; rfl)]; exact z.2.2
theorem E_last {x : Int64} {i : Int32} {q : Nat} (h : mcd y pc = some (.lastore, 1)) : XT d y pc ls (.long x :: .int i :: .ref q :: st) iv jv Q = ((shp q).1 = 17 ∧ vp_in i (shp q).2 ∧ XT d y (pc + 1) ls st iv (upj jv q i.toNatClampNeg x) Q) := by
  rw [XE h rfl]; simp only [Fi, popI, popJ, popA]
  refine propext ⟨fun z => ⟨z.2.1, z.2.2.1, ?_⟩, fun z => ⟨shp_lt (by rw [z.1]; decide), z.1, z.2.1, ?_⟩⟩
  · have h1 := z.2.2.2; rw [mk_uj (by rw [z.2.1]; rfl)] at h1; exact h1
  · rw [mk_uj (by rw [z.1]; rfl)]; exact z.2.2
theorem E_alen {q : Nat} (h : mcd y pc = some (.arraylength, 1)) : XT d y pc ls (.ref q :: st) iv jv Q = (((shp q).1 = 16 ∨ (shp q).1 = 17) ∧ XT d y (pc + 1) ls (.int (nI (shp q).2) :: st) iv jv Q) := by
  rw [XE h rfl]; simp only [Fi, popA]
  by_cases e : q = 1000
  · rw [if_pos e]
    refine propext ⟨fun z => z.elim, fun z => ?_⟩
    have := shp_lt (q := q) (by rcases z.1 with w | w <;> (rw [w]; decide))
    omega
  · rw [if_neg e]
    refine propext ⟨fun z => z.2, fun z => ⟨shp_lt (by rcases z.1 with w | w <;> (rw [w]; decide)), z⟩⟩
theorem E_virt {k j b : Nat} {as rest : List Value} (h : mcd y pc = some (.invokevirtual k, 3)) (hk : mlk (moi y) k = some (0, j)) (h1 : mst j = false) (h2 : (mmn j).name ≠ "<init>") (h3 : as.length = mna j) (h4 : moi j < 6) (h5 : mgr j = 0) (h6 : mok j = true) (h7 : roomy rest) : XT d y pc ls (as.reverse ++ .ref b :: rest) iv jv Q = (shp b = (moi j, mnf (moi j)) ∧ XM d j (.ref b :: as) iv jv (XK d y (pc + 3) ls rest Q)) := by
  rw [XE h rfl]; simp only [Fi, hk]
  have e1 : (as.reverse ++ .ref b :: rest).drop (mna j) = .ref b :: rest := by rw [← h3, ← List.length_reverse, List.drop_left]
  have e2 : (as.reverse ++ .ref b :: rest).take (mna j) = as.reverse := by rw [← h3, ← List.length_reverse, List.take_left]
  rw [e1, e2]
  simp only [popA, mcall, h5, Nat.add_zero, List.reverse_reverse]
  refine propext ⟨fun z => ⟨z.2.2.2.2.1, z.2.2.2.2.2.2.2.2.2⟩, fun z => ⟨h1, h2, by simp [h3], shp_lt (by rw [z.1]; show moi j ≠ 999; omega), z.1, h4, h7, Nat.le_refl _, h6, z.2⟩⟩
theorem E_stat {k j kd : Nat} {as rest : List Value} (h : mcd y pc = some (.invokestatic k, 3)) (hk : mlk (moi y) k = some (kd, j)) (hkd : kd = 1 ∨ kd = 4) (h1 : mst j = true) (h3 : as.length = mna j) (h5 : mgr j = 0) (h6 : mok j = true) (h7 : roomy rest) : XT d y pc ls (as.reverse ++ rest) iv jv Q = XM d j as iv jv (XK d y (pc + 3) ls rest Q) := by
  have e1 : (as.reverse ++ rest).drop (mna j) = rest := by rw [← h3, ← List.length_reverse, List.drop_left]
  have e2 : (as.reverse ++ rest).take (mna j) = as.reverse := by rw [← h3, ← List.length_reverse, List.take_left]
  rw [XE h rfl]
  rcases hkd with rfl | rfl
  · simp only [Fi, hk, e1, e2, mcall, h5, Nat.add_zero, List.reverse_reverse]
    exact propext ⟨fun z => z.2.2.2.2.2, fun z => ⟨h1, by simp [h3], h7, Nat.le_refl _, h6, z⟩⟩
  · simp only [Fi, hk, e1, e2, mcall, h5, Nat.add_zero, List.reverse_reverse]
    exact propext ⟨fun z => z.2.2.2.2.2, fun z => ⟨h1, by simp [h3], h7, Nat.le_refl _, h6, z⟩⟩
theorem E_max {k j : Nat} {a b : Int32} (h : mcd y pc = some (.invokestatic k, 3)) (hk : mlk (moi y) k = some (10, j)) (h7 : roomy st) : XT d y pc ls (.int b :: .int a :: st) iv jv Q = XT d y (pc + 3) ls (.int (if a < b then b else a) :: st) iv jv Q := by
  rw [XE h rfl]; simp only [Fi, hk, popI]
  exact propext ⟨fun z => z.2.2, fun z => ⟨h7, Nat.le_refl _, z⟩⟩
theorem E_min {k j : Nat} {a b : Int32} (h : mcd y pc = some (.invokestatic k, 3)) (hk : mlk (moi y) k = some (11, j)) (h7 : roomy st) : XT d y pc ls (.int b :: .int a :: st) iv jv Q = XT d y (pc + 3) ls (.int (if b < a then b else a) :: st) iv jv Q := by
  rw [XE h rfl]; simp only [Fi, hk, popI]
  exact propext ⟨fun z => z.2.2, fun z => ⟨h7, Nat.le_refl _, z⟩⟩
theorem E_abs {k j : Nat} {a : Int32} (h : mcd y pc = some (.invokestatic k, 3)) (hk : mlk (moi y) k = some (12, j)) (h7 : roomy st) : XT d y pc ls (.int a :: st) iv jv Q = XT d y (pc + 3) ls (.int (if nI 0 ≤ a then a else nI 0 - a) :: st) iv jv Q := by
  rw [XE h rfl]; simp only [Fi, hk, popI]
  exact propext ⟨fun z => z.2.2, fun z => ⟨h7, Nat.le_refl _, z⟩⟩
theorem E_copy {k j : Nat} {z dp sp : Int32} {a a0 : Nat} (h : mcd y pc = some (.invokestatic k, 3)) (hk : mlk (moi y) k = some (9, j)) (h7 : roomy st) : XT d y pc ls (.int z :: .int dp :: .ref a :: .int sp :: .ref a0 :: st) iv jv Q = ((((shp a).1 = 16 ∧ (shp a0).1 = 16) ∨ ((shp a).1 = 17 ∧ (shp a0).1 = 17)) ∧ ¬ sp < 0 ∧ ¬ dp < 0 ∧ ¬ z < 0 ∧ sp.toNatClampNeg + z.toNatClampNeg ≤ (shp a0).2 ∧ dp.toNatClampNeg + z.toNatClampNeg ≤ (shp a).2 ∧ T (TM d) none y 126 (pc + 3) ls st (mcpy (mk iv jv) a a0 sp.toNatClampNeg dp.toNatClampNeg z.toNatClampNeg) 126 Q) := by
  rw [XE h rfl]; simp only [Fi, hk, popI, popA]
  refine propext ⟨fun w => w.2.2.2, fun w => ⟨h7, shp_lt ?_, shp_lt ?_, w⟩⟩
  · rcases w.1 with e | e <;> (rw [e.1]; decide)
  · rcases w.1 with e | e <;> (rw [e.2]; decide)
theorem E_copyI {k j : Nat} {z dp sp : Int32} {a a0 : Nat} (h : mcd y pc = some (.invokestatic k, 3)) (hk : mlk (moi y) k = some (9, j)) (h7 : roomy st) (ha : (shp a).1 = 16) : XT d y pc ls (.int z :: .int dp :: .ref a :: .int sp :: .ref a0 :: st) iv jv Q = ((shp a0).1 = 16 ∧ ¬ sp < 0 ∧ ¬ dp < 0 ∧ ¬ z < 0 ∧ sp.toNatClampNeg + z.toNatClampNeg ≤ (shp a0).2 ∧ dp.toNatClampNeg + z.toNatClampNeg ≤ (shp a).2 ∧ XT d y (pc + 3) ls st (cpi iv a a0 sp.toNatClampNeg dp.toNatClampNeg z.toNatClampNeg) jv Q) := by
  rw [E_copy h hk h7]
  refine propext ⟨fun w => ?_, fun w => ?_⟩
  · rcases w.1 with e | e
    · have h1 := w.2.2.2.2.2.2
      rw [mk_ci ha e.2] at h1
      exact ⟨e.2, w.2.1, w.2.2.1, w.2.2.2.1, w.2.2.2.2.1, w.2.2.2.2.2.1, h1⟩
    · rw [ha] at e; exact absurd e.1 (by decide)
  · refine ⟨Or.inl ⟨ha, w.1⟩, w.2.1, w.2.2.1, w.2.2.2.1, w.2.2.2.2.1, w.2.2.2.2.2.1, ?_⟩
    rw [mk_ci ha w.1]; exact w.2.2.2.2.2.2
theorem E_copyJ {k j : Nat} {z dp sp : Int32} {a a0 : Nat} (h : mcd y pc = some (.invokestatic k, 3)) (hk : mlk (moi y) k = some (9, j)) (h7 : roomy st) (ha : (shp a).1 = 17) : XT d y pc ls (.int z :: .int dp :: .ref a :: .int sp :: .ref a0 :: st) iv jv Q = ((shp a0).1 = 17 ∧ ¬ sp < 0 ∧ ¬ dp < 0 ∧ ¬ z < 0 ∧ sp.toNatClampNeg + z.toNatClampNeg ≤ (shp a0).2 ∧ dp.toNatClampNeg + z.toNatClampNeg ≤ (shp a).2 ∧ XT d y (pc + 3) ls st iv (cpj jv a a0 sp.toNatClampNeg dp.toNatClampNeg z.toNatClampNeg) Q) := by
  rw [E_copy h hk h7]
  refine propext ⟨fun w => ?_, fun w => ?_⟩
  · rcases w.1 with e | e
    · rw [ha] at e; exact absurd e.1 (by decide)
    · have h1 := w.2.2.2.2.2.2
      rw [mk_cj ha e.2] at h1
      exact ⟨e.2, w.2.1, w.2.2.1, w.2.2.2.1, w.2.2.2.2.1, w.2.2.2.2.2.1, h1⟩
  · refine ⟨Or.inr ⟨ha, w.1⟩, w.2.1, w.2.2.1, w.2.2.2.1, w.2.2.2.2.1, w.2.2.2.2.2.1, ?_⟩
    rw [mk_cj ha w.1]; exact w.2.2.2.2.2.2
theorem E_iret {x : Int32} (h : mcd y pc = some (.ireturn, 1)) (hr : mrt y = some .int) : XT d y pc ls [.int x] iv jv Q = Q (some (.int x)) (mk iv jv) := by
  rw [XE h rfl]; simp [Fi, rok, hr]
theorem E_zret {x : Int32} (h : mcd y pc = some (.ireturn, 1)) (hr : mrt y = some .boolean) : XT d y pc ls [.int x] iv jv Q = ((x = nI 0 ∨ x = nI 1) ∧ Q (some (.int x)) (mk iv jv)) := by
  rw [XE h rfl]; simp [Fi, rok, hr, nI]
theorem E_lret {x : Int64} (h : mcd y pc = some (.lreturn, 1)) (hr : mrt y = some .long) : XT d y pc ls [.long x] iv jv Q = Q (some (.long x)) (mk iv jv) := by
  rw [XE h rfl]; simp [Fi, hr]
theorem E_vret (h : mcd y pc = some (.return_, 1)) (hr : mrt y = none) : XT d y pc ls [] iv jv Q = Q none (mk iv jv) := by
  rw [XE h rfl]; simp [Fi, hr]
theorem E_in {j : Nat} {as : List Value} {ls : List Value} (h1 : mok j = true) (h2 : (lexp as).length ≤ mml j) (h3 : mgr j = 0) (h4 : ndb as = true) (h5 : lent (mml j) as = ls) : XM (d + 1) j as iv jv Q = XT d j 0 ls [] iv jv Q := by
  unfold XM
  rw [TM_eq h1 h2 (by rw [h3]; decide) h4, h5, h3]
  rfl
end EQS
