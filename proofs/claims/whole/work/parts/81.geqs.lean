section GEQS
variable {d y pc nm n : Nat} {X : Option (Nat × (Nat → Int32))} {ls st : List Value} {hp : mH} {Q : Option Value → mH → Prop}
theorem TE {i : Instr} {len : Nat} (h : mcd y pc = some (i, len)) (hl : lenOk i len = true) : T (TM d) X y nm pc ls st hp n Q = Fi (TM d) X y nm (fun pc ls st hp n => T (TM d) X y nm pc ls st hp n Q) Q pc ls st hp n i := T_i (TM_mono d) h hl
theorem G_iconst {v : Int} {w : Int32} (h : mcd y pc = some (.iconst v, 1)) (hw : Int32.ofInt v = w) : T (TM d) X y nm pc ls st hp n Q = T (TM d) X y nm (pc + 1) ls (.int w :: st) hp n Q := by subst hw; exact TE h rfl
theorem G_bipush {v : Int} {w : Int32} (h : mcd y pc = some (.bipush v, 2)) (hw : (Int8.ofInt v).toInt32 = w) : T (TM d) X y nm pc ls st hp n Q = T (TM d) X y nm (pc + 2) ls (.int w :: st) hp n Q := by subst hw; exact TE h rfl
theorem G_sipush {v : Int} {w : Int32} (h : mcd y pc = some (.sipush v, 3)) (hw : (Int16.ofInt v).toInt32 = w) : T (TM d) X y nm pc ls st hp n Q = T (TM d) X y nm (pc + 3) ls (.int w :: st) hp n Q := by subst hw; exact TE h rfl
theorem G_lconst {v : Fin 2} {w : Int64} (h : mcd y pc = some (.lconst v, 1)) (hw : Int64.ofNat v.val = w) : T (TM d) X y nm pc ls st hp n Q = T (TM d) X y nm (pc + 1) ls (.long w :: st) hp n Q := by subst hw; exact TE h rfl
theorem G_ldc {k : Nat} {w : Int32} (h : mcd y pc = some (.ldc k, 2)) (hw : mki (moi y) k = some w) : T (TM d) X y nm pc ls st hp n Q = T (TM d) X y nm (pc + 2) ls (.int w :: st) hp n Q := by rw [TE h rfl]; simp only [Fi, hw]; try rfl
theorem G_ldc_w {k : Nat} {w : Int32} (h : mcd y pc = some (.ldc_w k, 3)) (hw : mki (moi y) k = some w) : T (TM d) X y nm pc ls st hp n Q = T (TM d) X y nm (pc + 3) ls (.int w :: st) hp n Q := by rw [TE h rfl]; simp only [Fi, hw]; try rfl
theorem G_ldc2_w {k : Nat} {w : Int64} (h : mcd y pc = some (.ldc2_w k, 3)) (hw : mkj (moi y) k = some w) : T (TM d) X y nm pc ls st hp n Q = T (TM d) X y nm (pc + 3) ls (.long w :: st) hp n Q := by rw [TE h rfl]; simp only [Fi, hw]; try rfl
theorem G_iload_n {k : Fin 4} {x : Int32} (h : mcd y pc = some (.iload_n k, 1)) (hw : ls[k.val]? = some (.int x)) : T (TM d) X y nm pc ls st hp n Q = T (TM d) X y nm (pc + 1) ls (.int x :: st) hp n Q := by rw [TE h rfl]; simp only [Fi, getI, hw]; try rfl
theorem G_iload {k : Nat} {x : Int32} (h : mcd y pc = some (.iload k, 2)) (hw : ls[k]? = some (.int x)) : T (TM d) X y nm pc ls st hp n Q = T (TM d) X y nm (pc + 2) ls (.int x :: st) hp n Q := by rw [TE h rfl]; simp only [Fi, getI, hw]; try rfl
theorem G_lload_n {k : Fin 4} {x : Int64} (h : mcd y pc = some (.lload_n k, 1)) (hw : ls[k.val]? = some (.long x)) (hw2 : ls[k.val + 1]? = some mW) : T (TM d) X y nm pc ls st hp n Q = T (TM d) X y nm (pc + 1) ls (.long x :: st) hp n Q := by rw [TE h rfl]; simp only [Fi, getJ, hw, hw2, true_and]; try rfl
theorem G_lload {k : Nat} {x : Int64} (h : mcd y pc = some (.lload k, 2)) (hw : ls[k]? = some (.long x)) (hw2 : ls[k + 1]? = some mW) : T (TM d) X y nm pc ls st hp n Q = T (TM d) X y nm (pc + 2) ls (.long x :: st) hp n Q := by rw [TE h rfl]; simp only [Fi, getJ, hw, hw2, true_and]; try rfl
theorem G_aload_n {k : Fin 4} {x : Nat} (h : mcd y pc = some (.aload_n k, 1)) (hw : ls[k.val]? = some (.ref x)) : T (TM d) X y nm pc ls st hp n Q = T (TM d) X y nm (pc + 1) ls (.ref x :: st) hp n Q := by rw [TE h rfl]; simp only [Fi, getA, hw]; try rfl
theorem G_aload {k : Nat} {x : Nat} (h : mcd y pc = some (.aload k, 2)) (hw : ls[k]? = some (.ref x)) : T (TM d) X y nm pc ls st hp n Q = T (TM d) X y nm (pc + 2) ls (.ref x :: st) hp n Q := by rw [TE h rfl]; simp only [Fi, getA, hw]; try rfl
theorem G_istore_n {k : Fin 4} {x : Int32} {ls' : List Value} (h : mcd y pc = some (.istore_n k, 1)) (hk : k.val < ls.length) (he : ls.set k.val (.int x) = ls') : T (TM d) X y nm pc ls (.int x :: st) hp n Q = T (TM d) X y nm (pc + 1) ls' st hp n Q := by subst he; rw [TE h rfl]; simp only [Fi, popI, hk, true_and]; try rfl
theorem G_istore {k : Nat} {x : Int32} {ls' : List Value} (h : mcd y pc = some (.istore k, 2)) (hk : k < ls.length) (he : ls.set k (.int x) = ls') : T (TM d) X y nm pc ls (.int x :: st) hp n Q = T (TM d) X y nm (pc + 2) ls' st hp n Q := by subst he; rw [TE h rfl]; simp only [Fi, popI, hk, true_and]; try rfl
theorem G_lstore_n {k : Fin 4} {x : Int64} {ls' : List Value} (h : mcd y pc = some (.lstore_n k, 1)) (hk : k.val + 1 < ls.length) (he : (ls.set k.val (.long x)).set (k.val + 1) mW = ls') : T (TM d) X y nm pc ls (.long x :: st) hp n Q = T (TM d) X y nm (pc + 1) ls' st hp n Q := by subst he; rw [TE h rfl]; simp only [Fi, popJ, hk, true_and]; try rfl
theorem G_lstore {k : Nat} {x : Int64} {ls' : List Value} (h : mcd y pc = some (.lstore k, 2)) (hk : k + 1 < ls.length) (he : (ls.set k (.long x)).set (k + 1) mW = ls') : T (TM d) X y nm pc ls (.long x :: st) hp n Q = T (TM d) X y nm (pc + 2) ls' st hp n Q := by subst he; rw [TE h rfl]; simp only [Fi, popJ, hk, true_and]; try rfl
theorem G_astore_n {k : Fin 4} {x : Nat} {ls' : List Value} (h : mcd y pc = some (.astore_n k, 1)) (hk : k.val < ls.length) (he : ls.set k.val (.ref x) = ls') : T (TM d) X y nm pc ls (.ref x :: st) hp n Q = T (TM d) X y nm (pc + 1) ls' st hp n Q := by subst he; rw [TE h rfl]; simp only [Fi, popA, hk, true_and]; try rfl
theorem G_astore {k : Nat} {x : Nat} {ls' : List Value} (h : mcd y pc = some (.astore k, 2)) (hk : k < ls.length) (he : ls.set k (.ref x) = ls') : T (TM d) X y nm pc ls (.ref x :: st) hp n Q = T (TM d) X y nm (pc + 2) ls' st hp n Q := by subst he; rw [TE h rfl]; simp only [Fi, popA, hk, true_and]; try rfl
theorem G_iinc {k : Nat} {v : Int} {x w : Int32} {ls' : List Value} (h : mcd y pc = some (.iinc k v, 3)) (hx : ls[k]? = some (.int x)) (hw : Int32.ofInt v = w) (he : ls.set k (.int (x + w)) = ls') : T (TM d) X y nm pc ls st hp n Q = T (TM d) X y nm (pc + 3) ls' st hp n Q := by subst hw; subst he; rw [TE h rfl]; simp only [Fi, getI, hx]; try rfl
theorem G_dup {a : Value} (h : mcd y pc = some (.dup, 1)) (hc : a.category = 1) : T (TM d) X y nm pc ls (a :: st) hp n Q = T (TM d) X y nm (pc + 1) ls (a :: a :: st) hp n Q := by rw [TE h rfl]; simp only [Fi, pop1, hc, true_and]; try rfl
theorem G_pop {a : Value} (h : mcd y pc = some (.pop, 1)) (hc : a.category = 1) : T (TM d) X y nm pc ls (a :: st) hp n Q = T (TM d) X y nm (pc + 1) ls st hp n Q := by rw [TE h rfl]; simp only [Fi, pop1, hc, true_and]; try rfl
theorem G_dup_x1 {a b : Value} (h : mcd y pc = some (.dup_x1, 1)) (hc : a.category = 1) (hb : b.category = 1) : T (TM d) X y nm pc ls (a :: b :: st) hp n Q = T (TM d) X y nm (pc + 1) ls (a :: b :: a :: st) hp n Q := by rw [TE h rfl]; simp only [Fi, pop1, hc, hb, true_and]; try rfl
theorem G_dup2 {a b : Value} (h : mcd y pc = some (.dup2, 1)) (hc : a.category = 1) (hb : b.category = 1) : T (TM d) X y nm pc ls (a :: b :: st) hp n Q = T (TM d) X y nm (pc + 1) ls (a :: b :: a :: b :: st) hp n Q := by rw [TE h rfl]; simp only [Fi, pop1, hc, hb, true_and]; try rfl
theorem G_goto {off : Int} {tgt : Nat} (h : mcd y pc = some (.goto off, 3)) (ht : (pc : Int) + off = (tgt : Int)) : T (TM d) X y nm pc ls st hp n Q = T (TM d) X y nm tgt ls st hp n Q := by rw [TE h rfl]; simp only [Fi, jmp_eq _ ht]; try rfl
theorem G_i2b {a : Int32} (h : mcd y pc = some (.i2b, 1)) : T (TM d) X y nm pc ls (.int a :: st) hp n Q = T (TM d) X y nm (pc + 1) ls (.int a.toInt8.toInt32 :: st) hp n Q := TE h rfl
theorem G_i2l {a : Int32} (h : mcd y pc = some (.i2l, 1)) : T (TM d) X y nm pc ls (.int a :: st) hp n Q = T (TM d) X y nm (pc + 1) ls (.long a.toInt64 :: st) hp n Q := TE h rfl
theorem G_l2i {a : Int64} (h : mcd y pc = some (.l2i, 1)) : T (TM d) X y nm pc ls (.long a :: st) hp n Q = T (TM d) X y nm (pc + 1) ls (.int a.toInt32 :: st) hp n Q := TE h rfl
theorem G_iadd {a b : Int32} (h : mcd y pc = some (.iadd, 1)) : T (TM d) X y nm pc ls (.int b :: .int a :: st) hp n Q = T (TM d) X y nm (pc + 1) ls (.int (a + b) :: st) hp n Q := TE h rfl
theorem G_isub {a b : Int32} (h : mcd y pc = some (.isub, 1)) : T (TM d) X y nm pc ls (.int b :: .int a :: st) hp n Q = T (TM d) X y nm (pc + 1) ls (.int (a - b) :: st) hp n Q := TE h rfl
theorem G_imul {a b : Int32} (h : mcd y pc = some (.imul, 1)) : T (TM d) X y nm pc ls (.int b :: .int a :: st) hp n Q = T (TM d) X y nm (pc + 1) ls (.int (a * b) :: st) hp n Q := TE h rfl
theorem G_iand {a b : Int32} (h : mcd y pc = some (.iand, 1)) : T (TM d) X y nm pc ls (.int b :: .int a :: st) hp n Q = T (TM d) X y nm (pc + 1) ls (.int (a &&& b) :: st) hp n Q := TE h rfl
theorem G_ior {a b : Int32} (h : mcd y pc = some (.ior, 1)) : T (TM d) X y nm pc ls (.int b :: .int a :: st) hp n Q = T (TM d) X y nm (pc + 1) ls (.int (a ||| b) :: st) hp n Q := TE h rfl
theorem G_ixor {a b : Int32} (h : mcd y pc = some (.ixor, 1)) : T (TM d) X y nm pc ls (.int b :: .int a :: st) hp n Q = T (TM d) X y nm (pc + 1) ls (.int (a ^^^ b) :: st) hp n Q := TE h rfl
theorem G_ishl {a b : Int32} (h : mcd y pc = some (.ishl, 1)) : T (TM d) X y nm pc ls (.int b :: .int a :: st) hp n Q = T (TM d) X y nm (pc + 1) ls (.int (a <<< (b &&& 31)) :: st) hp n Q := TE h rfl
theorem G_ishr {a b : Int32} (h : mcd y pc = some (.ishr, 1)) : T (TM d) X y nm pc ls (.int b :: .int a :: st) hp n Q = T (TM d) X y nm (pc + 1) ls (.int (a >>> (b &&& 31)) :: st) hp n Q := TE h rfl
theorem G_iushr {a b : Int32} (h : mcd y pc = some (.iushr, 1)) : T (TM d) X y nm pc ls (.int b :: .int a :: st) hp n Q = T (TM d) X y nm (pc + 1) ls (.int (a.toUInt32 >>> (b.toUInt32 &&& Int32.toUInt32 31)).toInt32 :: st) hp n Q := TE h rfl
theorem G_idiv {a b : Int32} (h : mcd y pc = some (.idiv, 1)) : T (TM d) X y nm pc ls (.int b :: .int a :: st) hp n Q = (¬ b = 0 ∧ T (TM d) X y nm (pc + 1) ls (.int (a / b) :: st) hp n Q) := TE h rfl
theorem G_irem {a b : Int32} (h : mcd y pc = some (.irem, 1)) : T (TM d) X y nm pc ls (.int b :: .int a :: st) hp n Q = (¬ b = 0 ∧ T (TM d) X y nm (pc + 1) ls (.int (a - a / b * b) :: st) hp n Q) := TE h rfl
theorem G_ineg {a : Int32} (h : mcd y pc = some (.ineg, 1)) : T (TM d) X y nm pc ls (.int a :: st) hp n Q = T (TM d) X y nm (pc + 1) ls (.int (-a) :: st) hp n Q := TE h rfl
theorem G_ladd {a b : Int64} (h : mcd y pc = some (.ladd, 1)) : T (TM d) X y nm pc ls (.long b :: .long a :: st) hp n Q = T (TM d) X y nm (pc + 1) ls (.long (a + b) :: st) hp n Q := TE h rfl
theorem G_lsub {a b : Int64} (h : mcd y pc = some (.lsub, 1)) : T (TM d) X y nm pc ls (.long b :: .long a :: st) hp n Q = T (TM d) X y nm (pc + 1) ls (.long (a - b) :: st) hp n Q := TE h rfl
theorem G_lmul {a b : Int64} (h : mcd y pc = some (.lmul, 1)) : T (TM d) X y nm pc ls (.long b :: .long a :: st) hp n Q = T (TM d) X y nm (pc + 1) ls (.long (a * b) :: st) hp n Q := TE h rfl
theorem G_land {a b : Int64} (h : mcd y pc = some (.land, 1)) : T (TM d) X y nm pc ls (.long b :: .long a :: st) hp n Q = T (TM d) X y nm (pc + 1) ls (.long (a &&& b) :: st) hp n Q := TE h rfl
theorem G_lor {a b : Int64} (h : mcd y pc = some (.lor, 1)) : T (TM d) X y nm pc ls (.long b :: .long a :: st) hp n Q = T (TM d) X y nm (pc + 1) ls (.long (a ||| b) :: st) hp n Q := TE h rfl
theorem G_ldiv {a b : Int64} (h : mcd y pc = some (.ldiv, 1)) : T (TM d) X y nm pc ls (.long b :: .long a :: st) hp n Q = (¬ b = 0 ∧ T (TM d) X y nm (pc + 1) ls (.long (a / b) :: st) hp n Q) := TE h rfl
theorem G_lrem {a b : Int64} (h : mcd y pc = some (.lrem, 1)) : T (TM d) X y nm pc ls (.long b :: .long a :: st) hp n Q = (¬ b = 0 ∧ T (TM d) X y nm (pc + 1) ls (.long (a - a / b * b) :: st) hp n Q) := TE h rfl
theorem G_lshl {a : Int64} {b : Int32} (h : mcd y pc = some (.lshl, 1)) : T (TM d) X y nm pc ls (.int b :: .long a :: st) hp n Q = T (TM d) X y nm (pc + 1) ls (.long (a <<< (b.toInt64 &&& 63)) :: st) hp n Q := TE h rfl
theorem G_lshr {a : Int64} {b : Int32} (h : mcd y pc = some (.lshr, 1)) : T (TM d) X y nm pc ls (.int b :: .long a :: st) hp n Q = T (TM d) X y nm (pc + 1) ls (.long (a >>> (b.toInt64 &&& 63)) :: st) hp n Q := TE h rfl
theorem G_lcmp {a b : Int64} (h : mcd y pc = some (.lcmp, 1)) : T (TM d) X y nm pc ls (.long b :: .long a :: st) hp n Q = T (TM d) X y nm (pc + 1) ls (.int (lg_cmp a b) :: st) hp n Q := TE h rfl
theorem G_icmp_eq {off : Int} {tgt : Nat} {a b : Int32} (h : mcd y pc = some (.if_icmp .eq off, 3)) (ht : (pc : Int) + off = (tgt : Int)) : T (TM d) X y nm pc ls (.int b :: .int a :: st) hp n Q = if a = b then T (TM d) X y nm tgt ls st hp n Q else T (TM d) X y nm (pc + 3) ls st hp n Q := by
  rw [TE h rfl]; simp only [Fi, popI, jmp_eq _ ht, show 0 ≤ (pc : Int) + off by omega, true_and]; try rfl
theorem G_icmp_ne {off : Int} {tgt : Nat} {a b : Int32} (h : mcd y pc = some (.if_icmp .ne off, 3)) (ht : (pc : Int) + off = (tgt : Int)) : T (TM d) X y nm pc ls (.int b :: .int a :: st) hp n Q = if a = b then T (TM d) X y nm (pc + 3) ls st hp n Q else T (TM d) X y nm tgt ls st hp n Q := by
  rw [TE h rfl]; simp only [Fi, popI, jmp_eq _ ht, show 0 ≤ (pc : Int) + off by omega, true_and]; try rfl
theorem G_icmp_lt {off : Int} {tgt : Nat} {a b : Int32} (h : mcd y pc = some (.if_icmp .lt off, 3)) (ht : (pc : Int) + off = (tgt : Int)) : T (TM d) X y nm pc ls (.int b :: .int a :: st) hp n Q = if a < b then T (TM d) X y nm tgt ls st hp n Q else T (TM d) X y nm (pc + 3) ls st hp n Q := by
  rw [TE h rfl]; simp only [Fi, popI, jmp_eq _ ht, show 0 ≤ (pc : Int) + off by omega, true_and]; try rfl
theorem G_icmp_ge {off : Int} {tgt : Nat} {a b : Int32} (h : mcd y pc = some (.if_icmp .ge off, 3)) (ht : (pc : Int) + off = (tgt : Int)) : T (TM d) X y nm pc ls (.int b :: .int a :: st) hp n Q = if b ≤ a then T (TM d) X y nm tgt ls st hp n Q else T (TM d) X y nm (pc + 3) ls st hp n Q := by
  rw [TE h rfl]; simp only [Fi, popI, jmp_eq _ ht, show 0 ≤ (pc : Int) + off by omega, true_and]; try rfl
theorem G_icmp_gt {off : Int} {tgt : Nat} {a b : Int32} (h : mcd y pc = some (.if_icmp .gt off, 3)) (ht : (pc : Int) + off = (tgt : Int)) : T (TM d) X y nm pc ls (.int b :: .int a :: st) hp n Q = if b < a then T (TM d) X y nm tgt ls st hp n Q else T (TM d) X y nm (pc + 3) ls st hp n Q := by
  rw [TE h rfl]; simp only [Fi, popI, jmp_eq _ ht, show 0 ≤ (pc : Int) + off by omega, true_and]; try rfl
theorem G_icmp_le {off : Int} {tgt : Nat} {a b : Int32} (h : mcd y pc = some (.if_icmp .le off, 3)) (ht : (pc : Int) + off = (tgt : Int)) : T (TM d) X y nm pc ls (.int b :: .int a :: st) hp n Q = if a ≤ b then T (TM d) X y nm tgt ls st hp n Q else T (TM d) X y nm (pc + 3) ls st hp n Q := by
  rw [TE h rfl]; simp only [Fi, popI, jmp_eq _ ht, show 0 ≤ (pc : Int) + off by omega, true_and]; try rfl
theorem G_if_eq {off : Int} {tgt : Nat} {a : Int32} (h : mcd y pc = some (.ifCond .eq off, 3)) (ht : (pc : Int) + off = (tgt : Int)) : T (TM d) X y nm pc ls (.int a :: st) hp n Q = if a = nI 0 then T (TM d) X y nm tgt ls st hp n Q else T (TM d) X y nm (pc + 3) ls st hp n Q := by
  rw [TE h rfl]; simp only [Fi, popI, jmp_eq _ ht, show 0 ≤ (pc : Int) + off by omega, true_and]; try rfl
theorem G_if_ne {off : Int} {tgt : Nat} {a : Int32} (h : mcd y pc = some (.ifCond .ne off, 3)) (ht : (pc : Int) + off = (tgt : Int)) : T (TM d) X y nm pc ls (.int a :: st) hp n Q = if a = nI 0 then T (TM d) X y nm (pc + 3) ls st hp n Q else T (TM d) X y nm tgt ls st hp n Q := by
  rw [TE h rfl]; simp only [Fi, popI, jmp_eq _ ht, show 0 ≤ (pc : Int) + off by omega, true_and]; try rfl
theorem G_if_lt {off : Int} {tgt : Nat} {a : Int32} (h : mcd y pc = some (.ifCond .lt off, 3)) (ht : (pc : Int) + off = (tgt : Int)) : T (TM d) X y nm pc ls (.int a :: st) hp n Q = if a < nI 0 then T (TM d) X y nm tgt ls st hp n Q else T (TM d) X y nm (pc + 3) ls st hp n Q := by
  rw [TE h rfl]; simp only [Fi, popI, jmp_eq _ ht, show 0 ≤ (pc : Int) + off by omega, true_and]; try rfl
theorem G_if_ge {off : Int} {tgt : Nat} {a : Int32} (h : mcd y pc = some (.ifCond .ge off, 3)) (ht : (pc : Int) + off = (tgt : Int)) : T (TM d) X y nm pc ls (.int a :: st) hp n Q = if nI 0 ≤ a then T (TM d) X y nm tgt ls st hp n Q else T (TM d) X y nm (pc + 3) ls st hp n Q := by
  rw [TE h rfl]; simp only [Fi, popI, jmp_eq _ ht, show 0 ≤ (pc : Int) + off by omega, true_and]; try rfl
theorem G_if_gt {off : Int} {tgt : Nat} {a : Int32} (h : mcd y pc = some (.ifCond .gt off, 3)) (ht : (pc : Int) + off = (tgt : Int)) : T (TM d) X y nm pc ls (.int a :: st) hp n Q = if nI 0 < a then T (TM d) X y nm tgt ls st hp n Q else T (TM d) X y nm (pc + 3) ls st hp n Q := by
  rw [TE h rfl]; simp only [Fi, popI, jmp_eq _ ht, show 0 ≤ (pc : Int) + off by omega, true_and]; try rfl
theorem G_if_le {off : Int} {tgt : Nat} {a : Int32} (h : mcd y pc = some (.ifCond .le off, 3)) (ht : (pc : Int) + off = (tgt : Int)) : T (TM d) X y nm pc ls (.int a :: st) hp n Q = if a ≤ nI 0 then T (TM d) X y nm tgt ls st hp n Q else T (TM d) X y nm (pc + 3) ls st hp n Q := by
  rw [TE h rfl]; simp only [Fi, popI, jmp_eq _ ht, show 0 ≤ (pc : Int) + off by omega, true_and]; try rfl
theorem G_swOut {df lo hi : Int} {offs : Array Int} {len tgt : Nat} {a : Int32} (h : mcd y pc = some (.tableswitch df lo hi offs, len)) (ht : (pc : Int) + df = (tgt : Int)) (ha : a.toInt < lo ∨ hi < a.toInt) : T (TM d) X y nm pc ls (.int a :: st) hp n Q = T (TM d) X y nm tgt ls st hp n Q := by
  rw [TE h rfl]; simp only [Fi, popI, ha, if_true, jmp_eq _ ht]; try rfl
theorem G_swIn {df lo hi off : Int} {offs : Array Int} {len tgt : Nat} {a : Int32} (h : mcd y pc = some (.tableswitch df lo hi offs, len)) (ha : ¬ (a.toInt < lo ∨ hi < a.toInt)) (ho : offs[(a.toInt - lo).toNat]? = some off) (ht : (pc : Int) + off = (tgt : Int)) : T (TM d) X y nm pc ls (.int a :: st) hp n Q = T (TM d) X y nm tgt ls st hp n Q := by
  rw [TE h rfl]; simp only [Fi, popI, ha, if_false, ho, jmp_eq _ ht]; try rfl
theorem G_get {k c f : Nat} {q : Nat} (h : mcd y pc = some (.getfield k, 3)) (hf : mfk (moi y) k = some (c, f)) : T (TM d) X y nm pc ls (.ref q :: st) hp n Q = (q < n ∧ shp q = (c, mnf c) ∧ T (TM d) X y nm (pc + 3) ls (hp q f :: st) hp n Q) := by
  rw [TE h rfl]; simp only [Fi, popA, hf]
theorem G_put {k c f : Nat} {q : Nat} {v : Value} (h : mcd y pc = some (.putfield k, 3)) (hf : mfk (moi y) k = some (c, f)) (hv : vok (mtyp c f) v) (hfin : (mT c f).2.2.2 = true → (mmn y).name = "<init>" ∧ moi y = c) : T (TM d) X y nm pc ls (v :: .ref q :: st) hp n Q = (q < n ∧ shp q = (c, mnf c) ∧ T (TM d) X y nm (pc + 3) ls st (mup hp q f v) n Q) := by
  rw [TE h rfl]; simp only [Fi, hf]
  exact propext ⟨fun z => ⟨z.1, z.2.1, z.2.2.2.2⟩, fun z => ⟨z.1, z.2.1, hv, hfin, z.2.2⟩⟩
theorem G_new {k c : Nat} (h : mcd y pc = some (.new k, 3)) (hk : mck (moi y) k = some c) (hc : c < 6) : T (TM d) X y nm pc ls st hp n Q = (shp n = (c, mnf c) ∧ n < 1000 ∧ n + 1 ≤ nm ∧ T (TM d) X y nm (pc + 3) ls (.ref n :: st) (mrow hp n (fun k => vdf (mtyp c k))) (n + 1) Q) := by
  rw [TE h rfl]; simp only [Fi, hk]
  exact propext ⟨fun z => z.2, fun z => ⟨hc, z⟩⟩
theorem G_neI {N : Nat} (h : mcd y pc = some (.newarray .int, 2)) (hN : N ≤ 1000) : T (TM d) X y nm pc ls (.int (nI N) :: st) hp n Q = (n < 1000 ∧ n + 1 ≤ nm ∧ shp n = (16, N) ∧ T (TM d) X y nm (pc + 2) ls (.ref n :: st) (mrow hp n (fun _ => .int 0)) (n + 1) Q) := by
  have h1 : (nI N).toNatClampNeg = N := q_tn (by omega)
  have h2 : ¬ nI N < 0 := by rw [show (0 : Int32) = nI 0 from rfl, q_lt (by omega) (by decide)]; omega
  rw [TE h rfl]; simp only [Fi, popI, h1]
  exact propext ⟨fun z => ⟨z.2.2.1, z.2.2.2.1, z.2.2.2.2⟩, fun z => ⟨h2, hN, z.1, z.2.1, z.2.2⟩⟩
theorem G_neJ {N : Nat} (h : mcd y pc = some (.newarray .long, 2)) (hN : N ≤ 1000) : T (TM d) X y nm pc ls (.int (nI N) :: st) hp n Q = (n < 1000 ∧ n + 1 ≤ nm ∧ shp n = (17, N) ∧ T (TM d) X y nm (pc + 2) ls (.ref n :: st) (mrow hp n (fun _ => .long 0)) (n + 1) Q) := by
  have h1 : (nI N).toNatClampNeg = N := q_tn (by omega)
  have h2 : ¬ nI N < 0 := by rw [show (0 : Int32) = nI 0 from rfl, q_lt (by omega) (by decide)]; omega
  rw [TE h rfl]; simp only [Fi, popI, h1]
  exact propext ⟨fun z => ⟨z.2.2.1, z.2.2.2.1, z.2.2.2.2⟩, fun z => ⟨h2, hN, z.1, z.2.1, z.2.2⟩⟩
theorem G_an2 {k N : Nat} (h : mcd y pc = some (.anewarray k, 3)) (hk : mck (moi y) k = some 2) (hN : N ≤ 1000) : T (TM d) X y nm pc ls (.int (nI N) :: st) hp n Q = (n < 1000 ∧ n + 1 ≤ nm ∧ shp n = (18, N) ∧ T (TM d) X y nm (pc + 3) ls (.ref n :: st) (mrow hp n (fun _ => .null)) (n + 1) Q) := by
  have h1 : (nI N).toNatClampNeg = N := q_tn (by omega)
  have h2 : ¬ nI N < 0 := by rw [show (0 : Int32) = nI 0 from rfl, q_lt (by omega) (by decide)]; omega
  rw [TE h rfl]; simp only [Fi, popI, h1, hk]
  exact propext ⟨fun z => ⟨z.2.2.1, z.2.2.2.1, z.2.2.2.2⟩, fun z => ⟨h2, hN, z.1, z.2.1, z.2.2⟩⟩
theorem G_an3 {k N : Nat} (h : mcd y pc = some (.anewarray k, 3)) (hk : mck (moi y) k = some 3) (hN : N ≤ 1000) : T (TM d) X y nm pc ls (.int (nI N) :: st) hp n Q = (n < 1000 ∧ n + 1 ≤ nm ∧ shp n = (19, N) ∧ T (TM d) X y nm (pc + 3) ls (.ref n :: st) (mrow hp n (fun _ => .null)) (n + 1) Q) := by
  have h1 : (nI N).toNatClampNeg = N := q_tn (by omega)
  have h2 : ¬ nI N < 0 := by rw [show (0 : Int32) = nI 0 from rfl, q_lt (by omega) (by decide)]; omega
  rw [TE h rfl]; simp only [Fi, popI, h1, hk]
  exact propext ⟨fun z => ⟨z.2.2.1, z.2.2.2.1, z.2.2.2.2⟩, fun z => ⟨h2, hN, z.1, z.2.1, z.2.2⟩⟩
theorem G_aast {x : Nat} {i : Int32} {q : Nat} (h : mcd y pc = some (.aastore, 1)) : T (TM d) X y nm pc ls (.ref x :: .int i :: .ref q :: st) hp n Q = (q < n ∧ x < n ∧ (((shp q).1 = 18 ∧ shp x = (2, 10)) ∨ ((shp q).1 = 19 ∧ shp x = (3, 3))) ∧ vp_in i (shp q).2 ∧ T (TM d) X y nm (pc + 1) ls st (mup hp q i.toNatClampNeg (.ref x)) n Q) := by
  rw [TE h rfl]; simp only [Fi, popI, popA]
theorem G_iast {x : Int32} {i : Int32} {q : Nat} (h : mcd y pc = some (.iastore, 1)) : T (TM d) X y nm pc ls (.int x :: .int i :: .ref q :: st) hp n Q = (q < n ∧ (shp q).1 = 16 ∧ vp_in i (shp q).2 ∧ T (TM d) X y nm (pc + 1) ls st (mup hp q i.toNatClampNeg (.int x)) n Q) := by
  rw [TE h rfl]; simp only [Fi, popI, popA]
theorem G_last {x : Int64} {i : Int32} {q : Nat} (h : mcd y pc = some (.lastore, 1)) : T (TM d) X y nm pc ls (.long x :: .int i :: .ref q :: st) hp n Q = (q < n ∧ (shp q).1 = 17 ∧ vp_in i (shp q).2 ∧ T (TM d) X y nm (pc + 1) ls st (mup hp q i.toNatClampNeg (.long x)) n Q) := by
  rw [TE h rfl]; simp only [Fi, popI, popJ, popA]
theorem G_obj {k j : Nat} {q : Nat} (h : mcd y pc = some (.invokespecial k, 3)) (hk : mlk (moi y) k = some (13, j)) (hr : roomy st) : T (TM d) X y nm pc ls (.ref q :: st) hp n Q = T (TM d) X y nm (pc + 3) ls st hp n Q := by
  rw [TE h rfl]; simp only [Fi, hk, popA]
  exact propext ⟨fun z => z.2, fun z => ⟨hr, z⟩⟩
def TK (d : Nat) (X : Option (Nat × (Nat → Int32))) (y nm pc : Nat) (ls rest : List Value) (n : Nat) (Q : Option Value → mH → Prop) : Option Value → mH → Prop := fun v hp => T (TM d) X y nm pc ls (v.toList ++ rest) hp n Q
theorem TK_n {pc : Nat} {rest : List Value} : TK d X y nm pc ls rest n Q none hp = T (TM d) X y nm pc ls rest hp n Q := rfl
theorem G_init {k j kd g b : Nat} (h : mcd y pc = some (.invokespecial k, 3)) (hk : mlk (moi y) k = some (kd, j)) (hkd : kd = 2 ∨ kd = 5) (h1 : mst j = false ∧ mrt j = none ∧ (mmn j).name = "<init>" ∧ mna j = 0) (hg : mgr j = g) (h6 : mok j = true) (hr : roomy st) : T (TM d) X y nm pc ls (.ref b :: st) hp n Q = (b < n ∧ n + g ≤ nm ∧ TM d j [.ref b] hp n (TK d X y nm (pc + 3) ls st (n + g) Q)) := by
  subst hg
  obtain ⟨a1, a2, a3, a4⟩ := h1
  rw [TE h rfl]
  rcases hkd with rfl | rfl
  · simp only [Fi, hk, a4, List.drop_zero, List.take_zero, List.reverse_nil, popA, mcall]
    exact propext ⟨fun z => ⟨z.2.2.2.2.1, z.2.2.2.2.2.2.1, z.2.2.2.2.2.2.2.2⟩, fun z => ⟨a1, a2, a3, Nat.zero_le _, z.1, hr, z.2.1, h6, z.2.2⟩⟩
  · simp only [Fi, hk, a4, List.drop_zero, List.take_zero, List.reverse_nil, popA, mcall]
    exact propext ⟨fun z => ⟨z.2.2.2.2.1, z.2.2.2.2.2.2.1, z.2.2.2.2.2.2.2.2⟩, fun z => ⟨a1, a2, a3, Nat.zero_le _, z.1, hr, z.2.1, h6, z.2.2⟩⟩
theorem G_vret (h : mcd y pc = some (.return_, 1)) (hr : mrt y = none) : T (TM d) X y nm pc ls [] hp n Q = (n = nm ∧ Q none hp) := by
  rw [TE h rfl]; simp only [Fi, hr, true_and]
theorem G_in {j g M : Nat} {as : List Value} {ls : List Value} (h1 : mok j = true) (hM : mml j = M) (h2 : (lexp as).length ≤ M) (h3 : mgr j = g) (h4 : ndb as = true) (h5 : lent M as = ls) (hn : n + g ≤ 1000) : TM (d + 1) j as hp n Q = T (TM d) none j (n + g) 0 ls [] hp n Q := by
  subst hM
  subst h3
  rw [TM_eq h1 h2 hn h4, h5]
end GEQS
section LAWEQ
variable {L : Nat} {xs : Nat → Int32} {pc : Nat} {ls st : List Value} {iv : mI} {jv : mJ}
def LQ : Option Value → mH → Prop := fun v _ => v = some (.int 1)
/-- the law's body, once the two objects stand -/
def XL (L : Nat) (xs : Nat → Int32) (pc : Nat) (ls st : List Value) (iv : mI) (jv : mJ) : Prop := T (TM 12) (some (L, xs)) Yl_law 126 pc ls st (mk iv jv) 126 LQ
def KL (L : Nat) (xs : Nat → Int32) (pc : Nat) (ls rest : List Value) : Option Value → mH → Prop := fun v hp => T (TM 12) (some (L, xs)) Yl_law 126 pc ls (v.toList ++ rest) hp 126 LQ
theorem KL_s {rest : List Value} {v : Value} : KL L xs pc ls rest (some v) (mk iv jv) = XL L xs pc ls (v :: rest) iv jv := rfl
theorem L_alen (h : mcd Yl_law pc = some (.arraylength, 1)) : XL L xs pc ls (.ref 1000 :: st) iv jv = XL L xs (pc + 1) ls (.int (nI L) :: st) iv jv := by
  show T _ _ _ _ _ _ _ _ _ _ = _
  rw [TE h rfl]; simp only [Fi, popA, if_true]; rfl
theorem L_iald {i : Int32} (h : mcd Yl_law pc = some (.iaload, 1)) : XL L xs pc ls (.int i :: .ref 1000 :: st) iv jv = (vp_in i L ∧ XL L xs (pc + 1) ls (.int (xs i.toNatClampNeg) :: st) iv jv) := by
  show T _ _ _ _ _ _ _ _ _ _ = _
  rw [TE h rfl]; simp only [Fi, popI, popA, if_true]
  rw [if_neg (by decide)]; rfl
theorem L_virt {k j b : Nat} {as rest : List Value} (h : mcd Yl_law pc = some (.invokevirtual k, 3)) (hk : mlk (moi Yl_law) k = some (0, j)) (h1 : mst j = false) (h2 : (mmn j).name ≠ "<init>") (h3 : as.length = mna j) (h4 : moi j < 6) (h5 : mgr j = 0) (h6 : mok j = true) (h7 : roomy rest) (hb : b < 126) (hs : shp b = (moi j, mnf (moi j))) : XL L xs pc ls (as.reverse ++ .ref b :: rest) iv jv = XM 12 j (.ref b :: as) iv jv (KL L xs (pc + 3) ls rest) := by
  show T _ _ _ _ _ _ _ _ _ _ = _
  rw [TE h rfl]; simp only [Fi, hk]
  have e1 : (as.reverse ++ .ref b :: rest).drop (mna j) = .ref b :: rest := by rw [← h3, ← List.length_reverse, List.drop_left]
  have e2 : (as.reverse ++ .ref b :: rest).take (mna j) = as.reverse := by rw [← h3, ← List.length_reverse, List.take_left]
  rw [e1, e2]
  simp only [popA, mcall, h5, Nat.add_zero, List.reverse_reverse]
  exact propext ⟨fun z => z.2.2.2.2.2.2.2.2.2, fun z => ⟨h1, h2, by simp [h3], hb, hs, h4, h7, Nat.le_refl _, h6, z⟩⟩
theorem L_zret {x : Int32} (h : mcd Yl_law pc = some (.ireturn, 1)) : XL L xs pc ls [.int x] iv jv = ((x = nI 0 ∨ x = nI 1) ∧ some (Value.int x) = some (.int 1)) := by
  show T _ _ _ _ _ _ _ _ _ _ = _
  have hr : mrt Yl_law = some .boolean := by decide +kernel
  rw [TE h rfl]; simp only [Fi, rok, hr, LQ, true_and, reduceCtorEq, false_or, Option.some.injEq]; rfl
end LAWEQ
