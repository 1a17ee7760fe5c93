/-! THE ABSTRACT MACHINE, 3: rules that need no heap, and that they hold of the machine -/
section Rules
variable {p : Program} {l : Launch} {e : Env} {R : Room} {s : State} {m : MethodId} {args : Array Value} {below : List Frame} {meth : Method} {c : Code}
variable {D : va_G} {cy : Nat → ClassId} {tm : Nat × Nat} {M : MT} {S0 : Sto} {Q : Out → Sto → Prop} {QF : State → Prop}
def rl_iadd (M : MT) (Q : Out → Sto → Prop) (P : Wt) : Prop := ∀ (pc : Nat) (lo : Lv) (st : List Value) (bc bs : Nat) (S : Sto) (x y : Int32), decode (mB M) pc = .ok (.iadd, 1) → P (pc + 1) lo (.int (x + y) :: st) bc bs S → P pc lo (.int y :: .int x :: st) bc bs S
theorem sn_iadd (C : Wk p l e R s m args below meth c D cy tm M S0 Q QF) : rl_iadd M Q (Pw p l e R s m args below meth c D cy M S0 QF) := by
  intro pc lo st bc bs S x y hd  k H locs cells slots ls hW hA hS hl hc hs
  exact lv_iadd C.1.1 C.1.2.1 hd (k H locs cells slots ls hW hA hS hl hc hs)
def rl_isub (M : MT) (Q : Out → Sto → Prop) (P : Wt) : Prop := ∀ (pc : Nat) (lo : Lv) (st : List Value) (bc bs : Nat) (S : Sto) (x y : Int32), decode (mB M) pc = .ok (.isub, 1) → P (pc + 1) lo (.int (x - y) :: st) bc bs S → P pc lo (.int y :: .int x :: st) bc bs S
theorem sn_isub (C : Wk p l e R s m args below meth c D cy tm M S0 Q QF) : rl_isub M Q (Pw p l e R s m args below meth c D cy M S0 QF) := by
  intro pc lo st bc bs S x y hd  k H locs cells slots ls hW hA hS hl hc hs
  exact lv_isub C.1.1 C.1.2.1 hd (k H locs cells slots ls hW hA hS hl hc hs)
def rl_imul (M : MT) (Q : Out → Sto → Prop) (P : Wt) : Prop := ∀ (pc : Nat) (lo : Lv) (st : List Value) (bc bs : Nat) (S : Sto) (x y : Int32), decode (mB M) pc = .ok (.imul, 1) → P (pc + 1) lo (.int (x * y) :: st) bc bs S → P pc lo (.int y :: .int x :: st) bc bs S
theorem sn_imul (C : Wk p l e R s m args below meth c D cy tm M S0 Q QF) : rl_imul M Q (Pw p l e R s m args below meth c D cy M S0 QF) := by
  intro pc lo st bc bs S x y hd  k H locs cells slots ls hW hA hS hl hc hs
  exact lv_imul C.1.1 C.1.2.1 hd (k H locs cells slots ls hW hA hS hl hc hs)
def rl_iand (M : MT) (Q : Out → Sto → Prop) (P : Wt) : Prop := ∀ (pc : Nat) (lo : Lv) (st : List Value) (bc bs : Nat) (S : Sto) (x y : Int32), decode (mB M) pc = .ok (.iand, 1) → P (pc + 1) lo (.int (x &&& y) :: st) bc bs S → P pc lo (.int y :: .int x :: st) bc bs S
theorem sn_iand (C : Wk p l e R s m args below meth c D cy tm M S0 Q QF) : rl_iand M Q (Pw p l e R s m args below meth c D cy M S0 QF) := by
  intro pc lo st bc bs S x y hd  k H locs cells slots ls hW hA hS hl hc hs
  exact lv_iand C.1.1 C.1.2.1 hd (k H locs cells slots ls hW hA hS hl hc hs)
def rl_ior (M : MT) (Q : Out → Sto → Prop) (P : Wt) : Prop := ∀ (pc : Nat) (lo : Lv) (st : List Value) (bc bs : Nat) (S : Sto) (x y : Int32), decode (mB M) pc = .ok (.ior, 1) → P (pc + 1) lo (.int (x ||| y) :: st) bc bs S → P pc lo (.int y :: .int x :: st) bc bs S
theorem sn_ior (C : Wk p l e R s m args below meth c D cy tm M S0 Q QF) : rl_ior M Q (Pw p l e R s m args below meth c D cy M S0 QF) := by
  intro pc lo st bc bs S x y hd  k H locs cells slots ls hW hA hS hl hc hs
  exact lv_ior C.1.1 C.1.2.1 hd (k H locs cells slots ls hW hA hS hl hc hs)
def rl_ixor (M : MT) (Q : Out → Sto → Prop) (P : Wt) : Prop := ∀ (pc : Nat) (lo : Lv) (st : List Value) (bc bs : Nat) (S : Sto) (x y : Int32), decode (mB M) pc = .ok (.ixor, 1) → P (pc + 1) lo (.int (x ^^^ y) :: st) bc bs S → P pc lo (.int y :: .int x :: st) bc bs S
theorem sn_ixor (C : Wk p l e R s m args below meth c D cy tm M S0 Q QF) : rl_ixor M Q (Pw p l e R s m args below meth c D cy M S0 QF) := by
  intro pc lo st bc bs S x y hd  k H locs cells slots ls hW hA hS hl hc hs
  exact lv_ixor C.1.1 C.1.2.1 hd (k H locs cells slots ls hW hA hS hl hc hs)
def rl_ishl (M : MT) (Q : Out → Sto → Prop) (P : Wt) : Prop := ∀ (pc : Nat) (lo : Lv) (st : List Value) (bc bs : Nat) (S : Sto) (x y : Int32), decode (mB M) pc = .ok (.ishl, 1) → P (pc + 1) lo (.int (x <<< (y &&& 31)) :: st) bc bs S → P pc lo (.int y :: .int x :: st) bc bs S
theorem sn_ishl (C : Wk p l e R s m args below meth c D cy tm M S0 Q QF) : rl_ishl M Q (Pw p l e R s m args below meth c D cy M S0 QF) := by
  intro pc lo st bc bs S x y hd  k H locs cells slots ls hW hA hS hl hc hs
  exact lv_ishl C.1.1 C.1.2.1 hd (k H locs cells slots ls hW hA hS hl hc hs)
def rl_ishr (M : MT) (Q : Out → Sto → Prop) (P : Wt) : Prop := ∀ (pc : Nat) (lo : Lv) (st : List Value) (bc bs : Nat) (S : Sto) (x y : Int32), decode (mB M) pc = .ok (.ishr, 1) → P (pc + 1) lo (.int (x >>> (y &&& 31)) :: st) bc bs S → P pc lo (.int y :: .int x :: st) bc bs S
theorem sn_ishr (C : Wk p l e R s m args below meth c D cy tm M S0 Q QF) : rl_ishr M Q (Pw p l e R s m args below meth c D cy M S0 QF) := by
  intro pc lo st bc bs S x y hd  k H locs cells slots ls hW hA hS hl hc hs
  exact lv_ishr C.1.1 C.1.2.1 hd (k H locs cells slots ls hW hA hS hl hc hs)
def rl_idiv (M : MT) (Q : Out → Sto → Prop) (P : Wt) : Prop := ∀ (pc : Nat) (lo : Lv) (st : List Value) (bc bs : Nat) (S : Sto) (x y : Int32), decode (mB M) pc = .ok (.idiv, 1) → (¬ y = 0) → P (pc + 1) lo (.int (x / y) :: st) bc bs S → P pc lo (.int y :: .int x :: st) bc bs S
theorem sn_idiv (C : Wk p l e R s m args below meth c D cy tm M S0 Q QF) : rl_idiv M Q (Pw p l e R s m args below meth c D cy M S0 QF) := by
  intro pc lo st bc bs S x y hd h1 k H locs cells slots ls hW hA hS hl hc hs
  exact lv_idiv C.1.1 C.1.2.1 hd h1 (k H locs cells slots ls hW hA hS hl hc hs)
def rl_irem (M : MT) (Q : Out → Sto → Prop) (P : Wt) : Prop := ∀ (pc : Nat) (lo : Lv) (st : List Value) (bc bs : Nat) (S : Sto) (x y : Int32), decode (mB M) pc = .ok (.irem, 1) → (¬ y = 0) → P (pc + 1) lo (.int (x - x / y * y) :: st) bc bs S → P pc lo (.int y :: .int x :: st) bc bs S
theorem sn_irem (C : Wk p l e R s m args below meth c D cy tm M S0 Q QF) : rl_irem M Q (Pw p l e R s m args below meth c D cy M S0 QF) := by
  intro pc lo st bc bs S x y hd h1 k H locs cells slots ls hW hA hS hl hc hs
  exact lv_irem C.1.1 C.1.2.1 hd h1 (k H locs cells slots ls hW hA hS hl hc hs)
def rl_ladd (M : MT) (Q : Out → Sto → Prop) (P : Wt) : Prop := ∀ (pc : Nat) (lo : Lv) (st : List Value) (bc bs : Nat) (S : Sto) (x y : Int64), decode (mB M) pc = .ok (.ladd, 1) → P (pc + 1) lo (.long (x + y) :: st) bc bs S → P pc lo (.long y :: .long x :: st) bc bs S
theorem sn_ladd (C : Wk p l e R s m args below meth c D cy tm M S0 Q QF) : rl_ladd M Q (Pw p l e R s m args below meth c D cy M S0 QF) := by
  intro pc lo st bc bs S x y hd  k H locs cells slots ls hW hA hS hl hc hs
  exact lv_ladd C.1.1 C.1.2.1 hd (k H locs cells slots ls hW hA hS hl hc hs)
def rl_lsub (M : MT) (Q : Out → Sto → Prop) (P : Wt) : Prop := ∀ (pc : Nat) (lo : Lv) (st : List Value) (bc bs : Nat) (S : Sto) (x y : Int64), decode (mB M) pc = .ok (.lsub, 1) → P (pc + 1) lo (.long (x - y) :: st) bc bs S → P pc lo (.long y :: .long x :: st) bc bs S
theorem sn_lsub (C : Wk p l e R s m args below meth c D cy tm M S0 Q QF) : rl_lsub M Q (Pw p l e R s m args below meth c D cy M S0 QF) := by
  intro pc lo st bc bs S x y hd  k H locs cells slots ls hW hA hS hl hc hs
  exact lv_lsub C.1.1 C.1.2.1 hd (k H locs cells slots ls hW hA hS hl hc hs)
def rl_lmul (M : MT) (Q : Out → Sto → Prop) (P : Wt) : Prop := ∀ (pc : Nat) (lo : Lv) (st : List Value) (bc bs : Nat) (S : Sto) (x y : Int64), decode (mB M) pc = .ok (.lmul, 1) → P (pc + 1) lo (.long (x * y) :: st) bc bs S → P pc lo (.long y :: .long x :: st) bc bs S
theorem sn_lmul (C : Wk p l e R s m args below meth c D cy tm M S0 Q QF) : rl_lmul M Q (Pw p l e R s m args below meth c D cy M S0 QF) := by
  intro pc lo st bc bs S x y hd  k H locs cells slots ls hW hA hS hl hc hs
  exact lv_lmul C.1.1 C.1.2.1 hd (k H locs cells slots ls hW hA hS hl hc hs)
def rl_land (M : MT) (Q : Out → Sto → Prop) (P : Wt) : Prop := ∀ (pc : Nat) (lo : Lv) (st : List Value) (bc bs : Nat) (S : Sto) (x y : Int64), decode (mB M) pc = .ok (.land, 1) → P (pc + 1) lo (.long (x &&& y) :: st) bc bs S → P pc lo (.long y :: .long x :: st) bc bs S
theorem sn_land (C : Wk p l e R s m args below meth c D cy tm M S0 Q QF) : rl_land M Q (Pw p l e R s m args below meth c D cy M S0 QF) := by
  intro pc lo st bc bs S x y hd  k H locs cells slots ls hW hA hS hl hc hs
  exact lv_land C.1.1 C.1.2.1 hd (k H locs cells slots ls hW hA hS hl hc hs)
def rl_lor (M : MT) (Q : Out → Sto → Prop) (P : Wt) : Prop := ∀ (pc : Nat) (lo : Lv) (st : List Value) (bc bs : Nat) (S : Sto) (x y : Int64), decode (mB M) pc = .ok (.lor, 1) → P (pc + 1) lo (.long (x ||| y) :: st) bc bs S → P pc lo (.long y :: .long x :: st) bc bs S
theorem sn_lor (C : Wk p l e R s m args below meth c D cy tm M S0 Q QF) : rl_lor M Q (Pw p l e R s m args below meth c D cy M S0 QF) := by
  intro pc lo st bc bs S x y hd  k H locs cells slots ls hW hA hS hl hc hs
  exact lv_lor C.1.1 C.1.2.1 hd (k H locs cells slots ls hW hA hS hl hc hs)
def rl_lxor (M : MT) (Q : Out → Sto → Prop) (P : Wt) : Prop := ∀ (pc : Nat) (lo : Lv) (st : List Value) (bc bs : Nat) (S : Sto) (x y : Int64), decode (mB M) pc = .ok (.lxor, 1) → P (pc + 1) lo (.long (x ^^^ y) :: st) bc bs S → P pc lo (.long y :: .long x :: st) bc bs S
theorem sn_lxor (C : Wk p l e R s m args below meth c D cy tm M S0 Q QF) : rl_lxor M Q (Pw p l e R s m args below meth c D cy M S0 QF) := by
  intro pc lo st bc bs S x y hd  k H locs cells slots ls hW hA hS hl hc hs
  exact lv_lxor C.1.1 C.1.2.1 hd (k H locs cells slots ls hW hA hS hl hc hs)
def rl_ldiv (M : MT) (Q : Out → Sto → Prop) (P : Wt) : Prop := ∀ (pc : Nat) (lo : Lv) (st : List Value) (bc bs : Nat) (S : Sto) (x y : Int64), decode (mB M) pc = .ok (.ldiv, 1) → (¬ y = 0) → P (pc + 1) lo (.long (x / y) :: st) bc bs S → P pc lo (.long y :: .long x :: st) bc bs S
theorem sn_ldiv (C : Wk p l e R s m args below meth c D cy tm M S0 Q QF) : rl_ldiv M Q (Pw p l e R s m args below meth c D cy M S0 QF) := by
  intro pc lo st bc bs S x y hd h1 k H locs cells slots ls hW hA hS hl hc hs
  exact lv_ldiv C.1.1 C.1.2.1 hd h1 (k H locs cells slots ls hW hA hS hl hc hs)
def rl_lrem (M : MT) (Q : Out → Sto → Prop) (P : Wt) : Prop := ∀ (pc : Nat) (lo : Lv) (st : List Value) (bc bs : Nat) (S : Sto) (x y : Int64), decode (mB M) pc = .ok (.lrem, 1) → (¬ y = 0) → P (pc + 1) lo (.long (x - x / y * y) :: st) bc bs S → P pc lo (.long y :: .long x :: st) bc bs S
theorem sn_lrem (C : Wk p l e R s m args below meth c D cy tm M S0 Q QF) : rl_lrem M Q (Pw p l e R s m args below meth c D cy M S0 QF) := by
  intro pc lo st bc bs S x y hd h1 k H locs cells slots ls hW hA hS hl hc hs
  exact lv_lrem C.1.1 C.1.2.1 hd h1 (k H locs cells slots ls hW hA hS hl hc hs)
def rl_lshl (M : MT) (Q : Out → Sto → Prop) (P : Wt) : Prop := ∀ (pc : Nat) (lo : Lv) (st : List Value) (bc bs : Nat) (S : Sto) (x : Int64) (y : Int32), decode (mB M) pc = .ok (.lshl, 1) → P (pc + 1) lo (.long (x <<< (y.toInt64 &&& 63)) :: st) bc bs S → P pc lo (.int y :: .long x :: st) bc bs S
theorem sn_lshl (C : Wk p l e R s m args below meth c D cy tm M S0 Q QF) : rl_lshl M Q (Pw p l e R s m args below meth c D cy M S0 QF) := by
  intro pc lo st bc bs S x y hd  k H locs cells slots ls hW hA hS hl hc hs
  exact lv_lshl C.1.1 C.1.2.1 hd rfl (k H locs cells slots ls hW hA hS hl hc hs)
def rl_lshr (M : MT) (Q : Out → Sto → Prop) (P : Wt) : Prop := ∀ (pc : Nat) (lo : Lv) (st : List Value) (bc bs : Nat) (S : Sto) (x : Int64) (y : Int32), decode (mB M) pc = .ok (.lshr, 1) → P (pc + 1) lo (.long (x >>> (y.toInt64 &&& 63)) :: st) bc bs S → P pc lo (.int y :: .long x :: st) bc bs S
theorem sn_lshr (C : Wk p l e R s m args below meth c D cy tm M S0 Q QF) : rl_lshr M Q (Pw p l e R s m args below meth c D cy M S0 QF) := by
  intro pc lo st bc bs S x y hd  k H locs cells slots ls hW hA hS hl hc hs
  exact lv_lshr C.1.1 C.1.2.1 hd rfl (k H locs cells slots ls hW hA hS hl hc hs)
def rl_i2l (M : MT) (Q : Out → Sto → Prop) (P : Wt) : Prop := ∀ (pc : Nat) (lo : Lv) (st : List Value) (bc bs : Nat) (S : Sto) (x : Int32), decode (mB M) pc = .ok (.i2l, 1) → P (pc + 1) lo (.long x.toInt64 :: st) bc bs S → P pc lo (.int x :: st) bc bs S
theorem sn_i2l (C : Wk p l e R s m args below meth c D cy tm M S0 Q QF) : rl_i2l M Q (Pw p l e R s m args below meth c D cy M S0 QF) := by
  intro pc lo st bc bs S x hd  k H locs cells slots ls hW hA hS hl hc hs
  exact lv_i2l C.1.1 C.1.2.1 hd rfl (k H locs cells slots ls hW hA hS hl hc hs)
def rl_lneg (M : MT) (Q : Out → Sto → Prop) (P : Wt) : Prop := ∀ (pc : Nat) (lo : Lv) (st : List Value) (bc bs : Nat) (S : Sto) (x : Int64), decode (mB M) pc = .ok (.lneg, 1) → P (pc + 1) lo (.long (-x) :: st) bc bs S → P pc lo (.long x :: st) bc bs S
theorem sn_lneg (C : Wk p l e R s m args below meth c D cy tm M S0 Q QF) : rl_lneg M Q (Pw p l e R s m args below meth c D cy M S0 QF) := by
  intro pc lo st bc bs S x hd  k H locs cells slots ls hW hA hS hl hc hs
  exact lv_lneg C.1.1 C.1.2.1 hd (k H locs cells slots ls hW hA hS hl hc hs)
def rl_l2i (M : MT) (Q : Out → Sto → Prop) (P : Wt) : Prop := ∀ (pc : Nat) (lo : Lv) (st : List Value) (bc bs : Nat) (S : Sto) (x : Int64), decode (mB M) pc = .ok (.l2i, 1) → P (pc + 1) lo (.int x.toInt32 :: st) bc bs S → P pc lo (.long x :: st) bc bs S
theorem sn_l2i (C : Wk p l e R s m args below meth c D cy tm M S0 Q QF) : rl_l2i M Q (Pw p l e R s m args below meth c D cy M S0 QF) := by
  intro pc lo st bc bs S x hd  k H locs cells slots ls hW hA hS hl hc hs
  exact lv_l2i C.1.1 C.1.2.1 hd rfl (k H locs cells slots ls hW hA hS hl hc hs)
def rl_lcmp (M : MT) (Q : Out → Sto → Prop) (P : Wt) : Prop := ∀ (pc : Nat) (lo : Lv) (st : List Value) (bc bs : Nat) (S : Sto) (x y : Int64), decode (mB M) pc = .ok (.lcmp, 1) → P (pc + 1) lo (.int (lg_cmp x y) :: st) bc bs S → P pc lo (.long y :: .long x :: st) bc bs S
theorem sn_lcmp (C : Wk p l e R s m args below meth c D cy tm M S0 Q QF) : rl_lcmp M Q (Pw p l e R s m args below meth c D cy M S0 QF) := by
  intro pc lo st bc bs S x y hd  k H locs cells slots ls hW hA hS hl hc hs
  exact W.lcmp C.1.1 C.1.2.1 hd (k H locs cells slots ls hW hA hS hl hc hs)
def rl_iconst (M : MT) (Q : Out → Sto → Prop) (P : Wt) : Prop := ∀ (pc : Nat) (lo : Lv) (st : List Value) (bc bs : Nat) (S : Sto) (n : Int) (v : Int32), decode (mB M) pc = .ok (.iconst n, 1) → (Int32.ofInt n = v) → P (pc + 1) lo (.int v :: st) bc bs S → P pc lo (st) bc bs S
theorem sn_iconst (C : Wk p l e R s m args below meth c D cy tm M S0 Q QF) : rl_iconst M Q (Pw p l e R s m args below meth c D cy M S0 QF) := by
  intro pc lo st bc bs S n v hd h1 k H locs cells slots ls hW hA hS hl hc hs
  exact lv_iconst C.1.1 C.1.2.1 hd h1 (k H locs cells slots ls hW hA hS hl hc hs)
def rl_lconst (M : MT) (Q : Out → Sto → Prop) (P : Wt) : Prop := ∀ (pc : Nat) (lo : Lv) (st : List Value) (bc bs : Nat) (S : Sto) (n : Fin 2) (v : Int64), decode (mB M) pc = .ok (.lconst n, 1) → (Int64.ofNat (n : Nat) = v) → P (pc + 1) lo (.long v :: st) bc bs S → P pc lo (st) bc bs S
theorem sn_lconst (C : Wk p l e R s m args below meth c D cy tm M S0 Q QF) : rl_lconst M Q (Pw p l e R s m args below meth c D cy M S0 QF) := by
  intro pc lo st bc bs S n v hd h1 k H locs cells slots ls hW hA hS hl hc hs
  exact lv_lconst C.1.1 C.1.2.1 hd h1 (k H locs cells slots ls hW hA hS hl hc hs)
def rl_bipush (M : MT) (Q : Out → Sto → Prop) (P : Wt) : Prop := ∀ (pc : Nat) (lo : Lv) (st : List Value) (bc bs : Nat) (S : Sto) (n : Int) (v : Int32), decode (mB M) pc = .ok (.bipush n, 2) → ((Int8.ofInt n).toInt32 = v) → P (pc + 2) lo (.int v :: st) bc bs S → P pc lo (st) bc bs S
theorem sn_bipush (C : Wk p l e R s m args below meth c D cy tm M S0 Q QF) : rl_bipush M Q (Pw p l e R s m args below meth c D cy M S0 QF) := by
  intro pc lo st bc bs S n v hd h1 k H locs cells slots ls hW hA hS hl hc hs
  exact lv_bipush C.1.1 C.1.2.1 hd h1 (k H locs cells slots ls hW hA hS hl hc hs)
def rl_sipush (M : MT) (Q : Out → Sto → Prop) (P : Wt) : Prop := ∀ (pc : Nat) (lo : Lv) (st : List Value) (bc bs : Nat) (S : Sto) (n : Int) (v : Int32), decode (mB M) pc = .ok (.sipush n, 3) → ((Int16.ofInt n).toInt32 = v) → P (pc + 3) lo (.int v :: st) bc bs S → P pc lo (st) bc bs S
theorem sn_sipush (C : Wk p l e R s m args below meth c D cy tm M S0 Q QF) : rl_sipush M Q (Pw p l e R s m args below meth c D cy M S0 QF) := by
  intro pc lo st bc bs S n v hd h1 k H locs cells slots ls hW hA hS hl hc hs
  exact lv_sipush C.1.1 C.1.2.1 hd h1 (k H locs cells slots ls hW hA hS hl hc hs)
def rl_ldc (M : MT) (Q : Out → Sto → Prop) (P : Wt) : Prop := ∀ (pc : Nat) (lo : Lv) (st : List Value) (bc bs : Nat) (S : Sto) (i : Nat) (v : Int32), decode (mB M) pc = .ok (.ldc i, 2) → (Cond.constant (mY M).cls i v ∈ UW) → P (pc + 2) lo (.int v :: st) bc bs S → P pc lo (st) bc bs S
theorem sn_ldc (C : Wk p l e R s m args below meth c D cy tm M S0 Q QF) : rl_ldc M Q (Pw p l e R s m args below meth c D cy M S0 QF) := by
  intro pc lo st bc bs S i v hd h1 k H locs cells slots ls hW hA hS hl hc hs
  exact lv_ldc C.1.1 C.1.2.1 C.1.2.2.2.1 (C.1.2.2.2.2 _ h1) hd (k H locs cells slots ls hW hA hS hl hc hs)
def rl_ldcw (M : MT) (Q : Out → Sto → Prop) (P : Wt) : Prop := ∀ (pc : Nat) (lo : Lv) (st : List Value) (bc bs : Nat) (S : Sto) (i : Nat) (v : Int32), decode (mB M) pc = .ok (.ldc_w i, 3) → (Cond.constant (mY M).cls i v ∈ UW) → P (pc + 3) lo (.int v :: st) bc bs S → P pc lo (st) bc bs S
theorem sn_ldcw (C : Wk p l e R s m args below meth c D cy tm M S0 Q QF) : rl_ldcw M Q (Pw p l e R s m args below meth c D cy M S0 QF) := by
  intro pc lo st bc bs S i v hd h1 k H locs cells slots ls hW hA hS hl hc hs
  exact lv_ldcw C.1.1 C.1.2.1 C.1.2.2.2.1 (C.1.2.2.2.2 _ h1) hd (k H locs cells slots ls hW hA hS hl hc hs)
def rl_ldc2 (M : MT) (Q : Out → Sto → Prop) (P : Wt) : Prop := ∀ (pc : Nat) (lo : Lv) (st : List Value) (bc bs : Nat) (S : Sto) (i : Nat) (v : Int64), decode (mB M) pc = .ok (.ldc2_w i, 3) → (Cond.constantLong (mY M).cls i v ∈ UW) → P (pc + 3) lo (.long v :: st) bc bs S → P pc lo (st) bc bs S
theorem sn_ldc2 (C : Wk p l e R s m args below meth c D cy tm M S0 Q QF) : rl_ldc2 M Q (Pw p l e R s m args below meth c D cy M S0 QF) := by
  intro pc lo st bc bs S i v hd h1 k H locs cells slots ls hW hA hS hl hc hs
  exact lv_ldc2 C.1.1 C.1.2.1 C.1.2.2.2.1 (C.1.2.2.2.2 _ h1) hd (k H locs cells slots ls hW hA hS hl hc hs)
def rl_null (M : MT) (Q : Out → Sto → Prop) (P : Wt) : Prop := ∀ (pc : Nat) (lo : Lv) (st : List Value) (bc bs : Nat) (S : Sto), decode (mB M) pc = .ok (.aconst_null, 1) → P (pc + 1) lo (.null :: st) bc bs S → P pc lo (st) bc bs S
theorem sn_null (C : Wk p l e R s m args below meth c D cy tm M S0 Q QF) : rl_null M Q (Pw p l e R s m args below meth c D cy M S0 QF) := by
  intro pc lo st bc bs S  hd  k H locs cells slots ls hW hA hS hl hc hs
  exact lv_null C.1.1 C.1.2.1 hd (k H locs cells slots ls hW hA hS hl hc hs)
def rl_iloadn (M : MT) (Q : Out → Sto → Prop) (P : Wt) : Prop := ∀ (pc : Nat) (lo : Lv) (st : List Value) (bc bs : Nat) (S : Sto) (q : Fin 4) (i : Nat) (x : Int32), decode (mB M) pc = .ok (.iload_n q, 1) → ((q : Nat) = i) → (lget lo i = some (.int x)) → P (pc + 1) lo (.int x :: st) bc bs S → P pc lo (st) bc bs S
theorem sn_iloadn (C : Wk p l e R s m args below meth c D cy tm M S0 Q QF) : rl_iloadn M Q (Pw p l e R s m args below meth c D cy M S0 QF) := by
  intro pc lo st bc bs S q i x hd h1 h2 k H locs cells slots ls hW hA hS hl hc hs
  exact lv_iload_n C.1.1 C.1.2.1 hd h1 (lget_at hl h2) (k H locs cells slots ls hW hA hS hl hc hs)
def rl_iload (M : MT) (Q : Out → Sto → Prop) (P : Wt) : Prop := ∀ (pc : Nat) (lo : Lv) (st : List Value) (bc bs : Nat) (S : Sto) (i : Nat) (x : Int32), decode (mB M) pc = .ok (.iload i, 2) → (lget lo i = some (.int x)) → P (pc + 2) lo (.int x :: st) bc bs S → P pc lo (st) bc bs S
theorem sn_iload (C : Wk p l e R s m args below meth c D cy tm M S0 Q QF) : rl_iload M Q (Pw p l e R s m args below meth c D cy M S0 QF) := by
  intro pc lo st bc bs S i x hd h2 k H locs cells slots ls hW hA hS hl hc hs
  exact lv_iload C.1.1 C.1.2.1 hd (lget_at hl h2) (k H locs cells slots ls hW hA hS hl hc hs)
def rl_lloadn (M : MT) (Q : Out → Sto → Prop) (P : Wt) : Prop := ∀ (pc : Nat) (lo : Lv) (st : List Value) (bc bs : Nat) (S : Sto) (q : Fin 4) (i : Nat) (x : Int64), decode (mB M) pc = .ok (.lload_n q, 1) → ((q : Nat) = i) → (lget lo i = some (.long x)) → P (pc + 1) lo (.long x :: st) bc bs S → P pc lo (st) bc bs S
theorem sn_lloadn (C : Wk p l e R s m args below meth c D cy tm M S0 Q QF) : rl_lloadn M Q (Pw p l e R s m args below meth c D cy M S0 QF) := by
  intro pc lo st bc bs S q i x hd h1 h2 k H locs cells slots ls hW hA hS hl hc hs
  exact lv_lload_n C.1.1 C.1.2.1 hd h1 (lget_at hl h2) (k H locs cells slots ls hW hA hS hl hc hs)
def rl_lload (M : MT) (Q : Out → Sto → Prop) (P : Wt) : Prop := ∀ (pc : Nat) (lo : Lv) (st : List Value) (bc bs : Nat) (S : Sto) (i : Nat) (x : Int64), decode (mB M) pc = .ok (.lload i, 2) → (lget lo i = some (.long x)) → P (pc + 2) lo (.long x :: st) bc bs S → P pc lo (st) bc bs S
theorem sn_lload (C : Wk p l e R s m args below meth c D cy tm M S0 Q QF) : rl_lload M Q (Pw p l e R s m args below meth c D cy M S0 QF) := by
  intro pc lo st bc bs S i x hd h2 k H locs cells slots ls hW hA hS hl hc hs
  exact lv_lload C.1.1 C.1.2.1 hd (lget_at hl h2) (k H locs cells slots ls hW hA hS hl hc hs)
def rl_aloadn (M : MT) (Q : Out → Sto → Prop) (P : Wt) : Prop := ∀ (pc : Nat) (lo : Lv) (st : List Value) (bc bs : Nat) (S : Sto) (q : Fin 4) (i : Nat) (x : Nat), decode (mB M) pc = .ok (.aload_n q, 1) → ((q : Nat) = i) → (lget lo i = some (.ref x)) → P (pc + 1) lo (.ref x :: st) bc bs S → P pc lo (st) bc bs S
theorem sn_aloadn (C : Wk p l e R s m args below meth c D cy tm M S0 Q QF) : rl_aloadn M Q (Pw p l e R s m args below meth c D cy M S0 QF) := by
  intro pc lo st bc bs S q i x hd h1 h2 k H locs cells slots ls hW hA hS hl hc hs
  exact lv_aload_n C.1.1 C.1.2.1 hd h1 (lget_at hl h2) (k H locs cells slots ls hW hA hS hl hc hs)
def rl_aload (M : MT) (Q : Out → Sto → Prop) (P : Wt) : Prop := ∀ (pc : Nat) (lo : Lv) (st : List Value) (bc bs : Nat) (S : Sto) (i : Nat) (x : Nat), decode (mB M) pc = .ok (.aload i, 2) → (lget lo i = some (.ref x)) → P (pc + 2) lo (.ref x :: st) bc bs S → P pc lo (st) bc bs S
theorem sn_aload (C : Wk p l e R s m args below meth c D cy tm M S0 Q QF) : rl_aload M Q (Pw p l e R s m args below meth c D cy M S0 QF) := by
  intro pc lo st bc bs S i x hd h2 k H locs cells slots ls hW hA hS hl hc hs
  exact lv_aload C.1.1 C.1.2.1 hd (lget_at hl h2) (k H locs cells slots ls hW hA hS hl hc hs)
def rl_istoren (M : MT) (Q : Out → Sto → Prop) (P : Wt) : Prop := ∀ (pc : Nat) (lo : Lv) (st : List Value) (bc bs : Nat) (S : Sto) (q : Fin 4) (i : Nat) (x : Int32), decode (mB M) pc = .ok (.istore_n q, 1) → ((q : Nat) = i) → (i < mL M) → P (pc + 1) (lst1 i (.int x) lo) (st) bc bs S → P pc lo (.int x :: st) bc bs S
theorem sn_istoren (C : Wk p l e R s m args below meth c D cy tm M S0 Q QF) : rl_istoren M Q (Pw p l e R s m args below meth c D cy M S0 QF) := by
  intro pc lo st bc bs S q i x hd h1 h2 k H locs cells slots ls hW hA hS hl hc hs
  exact lv_istore_n C.1.1 C.1.2.1 hd h1 hl h2 rfl (fun ls hl => k H locs cells slots ls hW hA hS hl hc hs)
def rl_istore (M : MT) (Q : Out → Sto → Prop) (P : Wt) : Prop := ∀ (pc : Nat) (lo : Lv) (st : List Value) (bc bs : Nat) (S : Sto) (i : Nat) (x : Int32), decode (mB M) pc = .ok (.istore i, 2) → (i < mL M) → P (pc + 2) (lst1 i (.int x) lo) (st) bc bs S → P pc lo (.int x :: st) bc bs S
theorem sn_istore (C : Wk p l e R s m args below meth c D cy tm M S0 Q QF) : rl_istore M Q (Pw p l e R s m args below meth c D cy M S0 QF) := by
  intro pc lo st bc bs S i x hd h2 k H locs cells slots ls hW hA hS hl hc hs
  exact lv_istore C.1.1 C.1.2.1 hd hl h2 rfl (fun ls hl => k H locs cells slots ls hW hA hS hl hc hs)
def rl_astoren (M : MT) (Q : Out → Sto → Prop) (P : Wt) : Prop := ∀ (pc : Nat) (lo : Lv) (st : List Value) (bc bs : Nat) (S : Sto) (q : Fin 4) (i : Nat) (x : Nat), decode (mB M) pc = .ok (.astore_n q, 1) → ((q : Nat) = i) → (i < mL M) → P (pc + 1) (lst1 i (.ref x) lo) (st) bc bs S → P pc lo (.ref x :: st) bc bs S
theorem sn_astoren (C : Wk p l e R s m args below meth c D cy tm M S0 Q QF) : rl_astoren M Q (Pw p l e R s m args below meth c D cy M S0 QF) := by
  intro pc lo st bc bs S q i x hd h1 h2 k H locs cells slots ls hW hA hS hl hc hs
  exact lv_astore_n C.1.1 C.1.2.1 hd h1 hl h2 rfl (fun ls hl => k H locs cells slots ls hW hA hS hl hc hs)
def rl_astore (M : MT) (Q : Out → Sto → Prop) (P : Wt) : Prop := ∀ (pc : Nat) (lo : Lv) (st : List Value) (bc bs : Nat) (S : Sto) (i : Nat) (x : Nat), decode (mB M) pc = .ok (.astore i, 2) → (i < mL M) → P (pc + 2) (lst1 i (.ref x) lo) (st) bc bs S → P pc lo (.ref x :: st) bc bs S
theorem sn_astore (C : Wk p l e R s m args below meth c D cy tm M S0 Q QF) : rl_astore M Q (Pw p l e R s m args below meth c D cy M S0 QF) := by
  intro pc lo st bc bs S i x hd h2 k H locs cells slots ls hW hA hS hl hc hs
  exact lv_astore C.1.1 C.1.2.1 hd hl h2 rfl (fun ls hl => k H locs cells slots ls hW hA hS hl hc hs)
def rl_lstoren (M : MT) (Q : Out → Sto → Prop) (P : Wt) : Prop := ∀ (pc : Nat) (lo : Lv) (st : List Value) (bc bs : Nat) (S : Sto) (q : Fin 4) (i : Nat) (x : Int64), decode (mB M) pc = .ok (.lstore_n q, 1) → ((q : Nat) = i) → (i + 1 < mL M) → P (pc + 1) (lst2 i (.long x) lo) (st) bc bs S → P pc lo (.long x :: st) bc bs S
theorem sn_lstoren (C : Wk p l e R s m args below meth c D cy tm M S0 Q QF) : rl_lstoren M Q (Pw p l e R s m args below meth c D cy M S0 QF) := by
  intro pc lo st bc bs S q i x hd h1 h2 k H locs cells slots ls hW hA hS hl hc hs
  exact lv_lstore_n C.1.1 C.1.2.1 hd h1 hl h2 rfl (fun ls hl => k H locs cells slots ls hW hA hS hl hc hs)
def rl_lstore (M : MT) (Q : Out → Sto → Prop) (P : Wt) : Prop := ∀ (pc : Nat) (lo : Lv) (st : List Value) (bc bs : Nat) (S : Sto) (i : Nat) (x : Int64), decode (mB M) pc = .ok (.lstore i, 2) → (i + 1 < mL M) → P (pc + 2) (lst2 i (.long x) lo) (st) bc bs S → P pc lo (.long x :: st) bc bs S
theorem sn_lstore (C : Wk p l e R s m args below meth c D cy tm M S0 Q QF) : rl_lstore M Q (Pw p l e R s m args below meth c D cy M S0 QF) := by
  intro pc lo st bc bs S i x hd h2 k H locs cells slots ls hW hA hS hl hc hs
  exact lv_lstore C.1.1 C.1.2.1 hd hl h2 rfl (fun ls hl => k H locs cells slots ls hW hA hS hl hc hs)
def rl_iinc (M : MT) (Q : Out → Sto → Prop) (P : Wt) : Prop := ∀ (pc : Nat) (lo : Lv) (st : List Value) (bc bs : Nat) (S : Sto) (i : Nat) (n : Int) (x v : Int32), decode (mB M) pc = .ok (.iinc i n, 3) → lget lo i = some (.int x) → x + Int32.ofInt n = v → i < mL M → P (pc + 3) (lst1 i (.int v) lo) st bc bs S → P pc lo st bc bs S
theorem sn_iinc (C : Wk p l e R s m args below meth c D cy tm M S0 Q QF) : rl_iinc M Q (Pw p l e R s m args below meth c D cy M S0 QF) := by
  intro pc lo st bc bs S i n x v hd h1 h2 h3 k H locs cells slots ls hW hA hS hl hc hs
  obtain ⟨j, hj⟩ := List.getElem?_of_mem (lget_mem h1)
  exact lv_iinc C.1.1 C.1.2.1 hd hl hj h2 h3 rfl (fun ls hl => k H locs cells slots ls hW hA hS hl hc hs)
def rl_dup (M : MT) (Q : Out → Sto → Prop) (P : Wt) : Prop := ∀ (pc : Nat) (lo : Lv) (st : List Value) (bc bs : Nat) (S : Sto) (v : Value), decode (mB M) pc = .ok (.dup, 1) → (v.category = 1) → P (pc + 1) lo (v :: v :: st) bc bs S → P pc lo (v :: st) bc bs S
theorem sn_dup (C : Wk p l e R s m args below meth c D cy tm M S0 Q QF) : rl_dup M Q (Pw p l e R s m args below meth c D cy M S0 QF) := by
  intro pc lo st bc bs S v hd h1 k H locs cells slots ls hW hA hS hl hc hs
  exact lv_dup C.1.1 C.1.2.1 hd h1 (k H locs cells slots ls hW hA hS hl hc hs)
def rl_dup2 (M : MT) (Q : Out → Sto → Prop) (P : Wt) : Prop := ∀ (pc : Nat) (lo : Lv) (st : List Value) (bc bs : Nat) (S : Sto) (v w : Value), decode (mB M) pc = .ok (.dup2, 1) → (v.category = 1) → (w.category = 1) → P (pc + 1) lo (v :: w :: v :: w :: st) bc bs S → P pc lo (v :: w :: st) bc bs S
theorem sn_dup2 (C : Wk p l e R s m args below meth c D cy tm M S0 Q QF) : rl_dup2 M Q (Pw p l e R s m args below meth c D cy M S0 QF) := by
  intro pc lo st bc bs S v w hd h1 h2 k H locs cells slots ls hW hA hS hl hc hs
  exact lv_dup2_11 C.1.1 C.1.2.1 hd h1 h2 (k H locs cells slots ls hW hA hS hl hc hs)
def rl_dup2l (M : MT) (Q : Out → Sto → Prop) (P : Wt) : Prop := ∀ (pc : Nat) (lo : Lv) (st : List Value) (bc bs : Nat) (S : Sto) (v : Value), decode (mB M) pc = .ok (.dup2, 1) → (v.category = 2) → P (pc + 1) lo (v :: v :: st) bc bs S → P pc lo (v :: st) bc bs S
theorem sn_dup2l (C : Wk p l e R s m args below meth c D cy tm M S0 Q QF) : rl_dup2l M Q (Pw p l e R s m args below meth c D cy M S0 QF) := by
  intro pc lo st bc bs S v hd h1 k H locs cells slots ls hW hA hS hl hc hs
  exact lv_dup2_2 C.1.1 C.1.2.1 hd h1 (k H locs cells slots ls hW hA hS hl hc hs)
def rl_dupx1 (M : MT) (Q : Out → Sto → Prop) (P : Wt) : Prop := ∀ (pc : Nat) (lo : Lv) (st : List Value) (bc bs : Nat) (S : Sto) (v w : Value), decode (mB M) pc = .ok (.dup_x1, 1) → (v.category = 1) → (w.category = 1) → P (pc + 1) lo (v :: w :: v :: st) bc bs S → P pc lo (v :: w :: st) bc bs S
theorem sn_dupx1 (C : Wk p l e R s m args below meth c D cy tm M S0 Q QF) : rl_dupx1 M Q (Pw p l e R s m args below meth c D cy M S0 QF) := by
  intro pc lo st bc bs S v w hd h1 h2 k H locs cells slots ls hW hA hS hl hc hs
  exact lv_dup_x1 C.1.1 C.1.2.1 hd h1 h2 (k H locs cells slots ls hW hA hS hl hc hs)
def rl_pop (M : MT) (Q : Out → Sto → Prop) (P : Wt) : Prop := ∀ (pc : Nat) (lo : Lv) (st : List Value) (bc bs : Nat) (S : Sto) (v : Value), decode (mB M) pc = .ok (.pop, 1) → (v.category = 1) → P (pc + 1) lo (st) bc bs S → P pc lo (v :: st) bc bs S
theorem sn_pop (C : Wk p l e R s m args below meth c D cy tm M S0 Q QF) : rl_pop M Q (Pw p l e R s m args below meth c D cy M S0 QF) := by
  intro pc lo st bc bs S v hd h1 k H locs cells slots ls hW hA hS hl hc hs
  exact lv_pop C.1.1 C.1.2.1 hd h1 (k H locs cells slots ls hW hA hS hl hc hs)
def rl_goto (M : MT) (Q : Out → Sto → Prop) (P : Wt) : Prop := ∀ (pc : Nat) (lo : Lv) (st : List Value) (bc bs : Nat) (S : Sto) (off : Int) (tgt : Nat), decode (mB M) pc = .ok (.goto off, 3) → ((pc : Int) + off = (tgt : Int)) → P tgt lo (st) bc bs S → P pc lo (st) bc bs S
theorem sn_goto (C : Wk p l e R s m args below meth c D cy tm M S0 Q QF) : rl_goto M Q (Pw p l e R s m args below meth c D cy M S0 QF) := by
  intro pc lo st bc bs S off tgt hd h1 k H locs cells slots ls hW hA hS hl hc hs
  exact lv_goto C.1.1 C.1.2.1 hd h1 (k H locs cells slots ls hW hA hS hl hc hs)
def rl_ifeq (M : MT) (Q : Out → Sto → Prop) (P : Wt) : Prop := ∀ (pc : Nat) (lo : Lv) (st : List Value) (bc bs : Nat) (S : Sto) (x : Int32) (off : Int) (tgt : Nat), decode (mB M) pc = .ok (.ifCond .eq off, 3) → (pc : Int) + off = (tgt : Int) → (x = 0 → P tgt lo st bc bs S) → (¬ x = 0 → P (pc + 3) lo st bc bs S) → P pc lo (.int x :: st) bc bs S
theorem sn_ifeq (C : Wk p l e R s m args below meth c D cy tm M S0 Q QF) : rl_ifeq M Q (Pw p l e R s m args below meth c D cy M S0 QF) := by
  intro pc lo st bc bs S x off tgt hd ht kt kf H locs cells slots ls hW hA hS hl hc hs
  exact lv_if_eq C.1.1 C.1.2.1 hd ht (fun h => kt h H locs cells slots ls hW hA hS hl hc hs) (fun h => kf h H locs cells slots ls hW hA hS hl hc hs)
def rl_ifne (M : MT) (Q : Out → Sto → Prop) (P : Wt) : Prop := ∀ (pc : Nat) (lo : Lv) (st : List Value) (bc bs : Nat) (S : Sto) (x : Int32) (off : Int) (tgt : Nat), decode (mB M) pc = .ok (.ifCond .ne off, 3) → (pc : Int) + off = (tgt : Int) → (¬ x = 0 → P tgt lo st bc bs S) → (x = 0 → P (pc + 3) lo st bc bs S) → P pc lo (.int x :: st) bc bs S
theorem sn_ifne (C : Wk p l e R s m args below meth c D cy tm M S0 Q QF) : rl_ifne M Q (Pw p l e R s m args below meth c D cy M S0 QF) := by
  intro pc lo st bc bs S x off tgt hd ht kt kf H locs cells slots ls hW hA hS hl hc hs
  exact lv_if_ne C.1.1 C.1.2.1 hd ht (fun h => kt h H locs cells slots ls hW hA hS hl hc hs) (fun h => kf h H locs cells slots ls hW hA hS hl hc hs)
def rl_iflt (M : MT) (Q : Out → Sto → Prop) (P : Wt) : Prop := ∀ (pc : Nat) (lo : Lv) (st : List Value) (bc bs : Nat) (S : Sto) (x : Int32) (off : Int) (tgt : Nat), decode (mB M) pc = .ok (.ifCond .lt off, 3) → (pc : Int) + off = (tgt : Int) → (x < 0 → P tgt lo st bc bs S) → (¬ x < 0 → P (pc + 3) lo st bc bs S) → P pc lo (.int x :: st) bc bs S
theorem sn_iflt (C : Wk p l e R s m args below meth c D cy tm M S0 Q QF) : rl_iflt M Q (Pw p l e R s m args below meth c D cy M S0 QF) := by
  intro pc lo st bc bs S x off tgt hd ht kt kf H locs cells slots ls hW hA hS hl hc hs
  exact lv_if_lt C.1.1 C.1.2.1 hd ht (fun h => kt h H locs cells slots ls hW hA hS hl hc hs) (fun h => kf h H locs cells slots ls hW hA hS hl hc hs)
def rl_ifge (M : MT) (Q : Out → Sto → Prop) (P : Wt) : Prop := ∀ (pc : Nat) (lo : Lv) (st : List Value) (bc bs : Nat) (S : Sto) (x : Int32) (off : Int) (tgt : Nat), decode (mB M) pc = .ok (.ifCond .ge off, 3) → (pc : Int) + off = (tgt : Int) → (0 ≤ x → P tgt lo st bc bs S) → (¬ 0 ≤ x → P (pc + 3) lo st bc bs S) → P pc lo (.int x :: st) bc bs S
theorem sn_ifge (C : Wk p l e R s m args below meth c D cy tm M S0 Q QF) : rl_ifge M Q (Pw p l e R s m args below meth c D cy M S0 QF) := by
  intro pc lo st bc bs S x off tgt hd ht kt kf H locs cells slots ls hW hA hS hl hc hs
  exact lv_if_ge C.1.1 C.1.2.1 hd ht (fun h => kt h H locs cells slots ls hW hA hS hl hc hs) (fun h => kf h H locs cells slots ls hW hA hS hl hc hs)
def rl_ifgt (M : MT) (Q : Out → Sto → Prop) (P : Wt) : Prop := ∀ (pc : Nat) (lo : Lv) (st : List Value) (bc bs : Nat) (S : Sto) (x : Int32) (off : Int) (tgt : Nat), decode (mB M) pc = .ok (.ifCond .gt off, 3) → (pc : Int) + off = (tgt : Int) → (0 < x → P tgt lo st bc bs S) → (¬ 0 < x → P (pc + 3) lo st bc bs S) → P pc lo (.int x :: st) bc bs S
theorem sn_ifgt (C : Wk p l e R s m args below meth c D cy tm M S0 Q QF) : rl_ifgt M Q (Pw p l e R s m args below meth c D cy M S0 QF) := by
  intro pc lo st bc bs S x off tgt hd ht kt kf H locs cells slots ls hW hA hS hl hc hs
  exact lv_if_gt C.1.1 C.1.2.1 hd ht (fun h => kt h H locs cells slots ls hW hA hS hl hc hs) (fun h => kf h H locs cells slots ls hW hA hS hl hc hs)
def rl_ifle (M : MT) (Q : Out → Sto → Prop) (P : Wt) : Prop := ∀ (pc : Nat) (lo : Lv) (st : List Value) (bc bs : Nat) (S : Sto) (x : Int32) (off : Int) (tgt : Nat), decode (mB M) pc = .ok (.ifCond .le off, 3) → (pc : Int) + off = (tgt : Int) → (x ≤ 0 → P tgt lo st bc bs S) → (¬ x ≤ 0 → P (pc + 3) lo st bc bs S) → P pc lo (.int x :: st) bc bs S
theorem sn_ifle (C : Wk p l e R s m args below meth c D cy tm M S0 Q QF) : rl_ifle M Q (Pw p l e R s m args below meth c D cy M S0 QF) := by
  intro pc lo st bc bs S x off tgt hd ht kt kf H locs cells slots ls hW hA hS hl hc hs
  exact lv_if_le C.1.1 C.1.2.1 hd ht (fun h => kt h H locs cells slots ls hW hA hS hl hc hs) (fun h => kf h H locs cells slots ls hW hA hS hl hc hs)
def rl_iceq (M : MT) (Q : Out → Sto → Prop) (P : Wt) : Prop := ∀ (pc : Nat) (lo : Lv) (st : List Value) (bc bs : Nat) (S : Sto) (x y : Int32) (off : Int) (tgt : Nat), decode (mB M) pc = .ok (.if_icmp .eq off, 3) → (pc : Int) + off = (tgt : Int) → (x = y → P tgt lo st bc bs S) → (¬ x = y → P (pc + 3) lo st bc bs S) → P pc lo (.int y :: .int x :: st) bc bs S
theorem sn_iceq (C : Wk p l e R s m args below meth c D cy tm M S0 Q QF) : rl_iceq M Q (Pw p l e R s m args below meth c D cy M S0 QF) := by
  intro pc lo st bc bs S x y off tgt hd ht kt kf H locs cells slots ls hW hA hS hl hc hs
  exact lv_icmp_eq C.1.1 C.1.2.1 hd ht (fun h => kt h H locs cells slots ls hW hA hS hl hc hs) (fun h => kf h H locs cells slots ls hW hA hS hl hc hs)
def rl_icne (M : MT) (Q : Out → Sto → Prop) (P : Wt) : Prop := ∀ (pc : Nat) (lo : Lv) (st : List Value) (bc bs : Nat) (S : Sto) (x y : Int32) (off : Int) (tgt : Nat), decode (mB M) pc = .ok (.if_icmp .ne off, 3) → (pc : Int) + off = (tgt : Int) → (¬ x = y → P tgt lo st bc bs S) → (x = y → P (pc + 3) lo st bc bs S) → P pc lo (.int y :: .int x :: st) bc bs S
theorem sn_icne (C : Wk p l e R s m args below meth c D cy tm M S0 Q QF) : rl_icne M Q (Pw p l e R s m args below meth c D cy M S0 QF) := by
  intro pc lo st bc bs S x y off tgt hd ht kt kf H locs cells slots ls hW hA hS hl hc hs
  exact lv_icmp_ne C.1.1 C.1.2.1 hd ht (fun h => kt h H locs cells slots ls hW hA hS hl hc hs) (fun h => kf h H locs cells slots ls hW hA hS hl hc hs)
def rl_iclt (M : MT) (Q : Out → Sto → Prop) (P : Wt) : Prop := ∀ (pc : Nat) (lo : Lv) (st : List Value) (bc bs : Nat) (S : Sto) (x y : Int32) (off : Int) (tgt : Nat), decode (mB M) pc = .ok (.if_icmp .lt off, 3) → (pc : Int) + off = (tgt : Int) → (x < y → P tgt lo st bc bs S) → (¬ x < y → P (pc + 3) lo st bc bs S) → P pc lo (.int y :: .int x :: st) bc bs S
theorem sn_iclt (C : Wk p l e R s m args below meth c D cy tm M S0 Q QF) : rl_iclt M Q (Pw p l e R s m args below meth c D cy M S0 QF) := by
  intro pc lo st bc bs S x y off tgt hd ht kt kf H locs cells slots ls hW hA hS hl hc hs
  exact lv_icmp_lt C.1.1 C.1.2.1 hd ht (fun h => kt h H locs cells slots ls hW hA hS hl hc hs) (fun h => kf h H locs cells slots ls hW hA hS hl hc hs)
def rl_icge (M : MT) (Q : Out → Sto → Prop) (P : Wt) : Prop := ∀ (pc : Nat) (lo : Lv) (st : List Value) (bc bs : Nat) (S : Sto) (x y : Int32) (off : Int) (tgt : Nat), decode (mB M) pc = .ok (.if_icmp .ge off, 3) → (pc : Int) + off = (tgt : Int) → (y ≤ x → P tgt lo st bc bs S) → (¬ y ≤ x → P (pc + 3) lo st bc bs S) → P pc lo (.int y :: .int x :: st) bc bs S
theorem sn_icge (C : Wk p l e R s m args below meth c D cy tm M S0 Q QF) : rl_icge M Q (Pw p l e R s m args below meth c D cy M S0 QF) := by
  intro pc lo st bc bs S x y off tgt hd ht kt kf H locs cells slots ls hW hA hS hl hc hs
  exact lv_icmp_ge C.1.1 C.1.2.1 hd ht (fun h => kt h H locs cells slots ls hW hA hS hl hc hs) (fun h => kf h H locs cells slots ls hW hA hS hl hc hs)
def rl_icgt (M : MT) (Q : Out → Sto → Prop) (P : Wt) : Prop := ∀ (pc : Nat) (lo : Lv) (st : List Value) (bc bs : Nat) (S : Sto) (x y : Int32) (off : Int) (tgt : Nat), decode (mB M) pc = .ok (.if_icmp .gt off, 3) → (pc : Int) + off = (tgt : Int) → (y < x → P tgt lo st bc bs S) → (¬ y < x → P (pc + 3) lo st bc bs S) → P pc lo (.int y :: .int x :: st) bc bs S
theorem sn_icgt (C : Wk p l e R s m args below meth c D cy tm M S0 Q QF) : rl_icgt M Q (Pw p l e R s m args below meth c D cy M S0 QF) := by
  intro pc lo st bc bs S x y off tgt hd ht kt kf H locs cells slots ls hW hA hS hl hc hs
  exact lv_icmp_gt C.1.1 C.1.2.1 hd ht (fun h => kt h H locs cells slots ls hW hA hS hl hc hs) (fun h => kf h H locs cells slots ls hW hA hS hl hc hs)
def rl_icle (M : MT) (Q : Out → Sto → Prop) (P : Wt) : Prop := ∀ (pc : Nat) (lo : Lv) (st : List Value) (bc bs : Nat) (S : Sto) (x y : Int32) (off : Int) (tgt : Nat), decode (mB M) pc = .ok (.if_icmp .le off, 3) → (pc : Int) + off = (tgt : Int) → (x ≤ y → P tgt lo st bc bs S) → (¬ x ≤ y → P (pc + 3) lo st bc bs S) → P pc lo (.int y :: .int x :: st) bc bs S
theorem sn_icle (C : Wk p l e R s m args below meth c D cy tm M S0 Q QF) : rl_icle M Q (Pw p l e R s m args below meth c D cy M S0 QF) := by
  intro pc lo st bc bs S x y off tgt hd ht kt kf H locs cells slots ls hW hA hS hl hc hs
  exact lv_icmp_le C.1.1 C.1.2.1 hd ht (fun h => kt h H locs cells slots ls hW hA hS hl hc hs) (fun h => kf h H locs cells slots ls hW hA hS hl hc hs)
def rl_aceq (M : MT) (Q : Out → Sto → Prop) (P : Wt) : Prop := ∀ (pc : Nat) (lo : Lv) (st : List Value) (bc bs : Nat) (S : Sto) (x y : Nat) (off : Int) (tgt : Nat), decode (mB M) pc = .ok (.if_acmp .eq off, 3) → (pc : Int) + off = (tgt : Int) → (x = y → P tgt lo st bc bs S) → (¬ x = y → P (pc + 3) lo st bc bs S) → P pc lo (.ref y :: .ref x :: st) bc bs S
theorem sn_aceq (C : Wk p l e R s m args below meth c D cy tm M S0 Q QF) : rl_aceq M Q (Pw p l e R s m args below meth c D cy M S0 QF) := by
  intro pc lo st bc bs S x y off tgt hd ht kt kf H locs cells slots ls hW hA hS hl hc hs
  exact lv_acmp_eq C.1.1 C.1.2.1 (rx := some x) (ry := some y) hd ht (fun h => kt (Option.some.inj h) H locs cells slots ls hW hA hS hl hc hs) (fun h => kf (fun z => h (congrArg some z)) H locs cells slots ls hW hA hS hl hc hs)
def rl_acne (M : MT) (Q : Out → Sto → Prop) (P : Wt) : Prop := ∀ (pc : Nat) (lo : Lv) (st : List Value) (bc bs : Nat) (S : Sto) (x y : Nat) (off : Int) (tgt : Nat), decode (mB M) pc = .ok (.if_acmp .ne off, 3) → (pc : Int) + off = (tgt : Int) → (¬ x = y → P tgt lo st bc bs S) → (x = y → P (pc + 3) lo st bc bs S) → P pc lo (.ref y :: .ref x :: st) bc bs S
theorem sn_acne (C : Wk p l e R s m args below meth c D cy tm M S0 Q QF) : rl_acne M Q (Pw p l e R s m args below meth c D cy M S0 QF) := by
  intro pc lo st bc bs S x y off tgt hd ht kt kf H locs cells slots ls hW hA hS hl hc hs
  exact lv_acmp_ne C.1.1 C.1.2.1 (rx := some x) (ry := some y) hd ht (fun h => kt (fun z => h (congrArg some z)) H locs cells slots ls hW hA hS hl hc hs) (fun h => kf (Option.some.inj h) H locs cells slots ls hW hA hS hl hc hs)
def rl_swin (M : MT) (Q : Out → Sto → Prop) (P : Wt) : Prop := ∀ (pc : Nat) (lo : Lv) (st : List Value) (bc bs : Nat) (S : Sto) (dflt lw hi : Int) (offs : Array Int) (len : Nat) (x : Int32) (off : Int) (tgt : Nat), decode (mB M) pc = .ok (.tableswitch dflt lw hi offs, len) → ¬ x.toInt < lw → ¬ hi < x.toInt → offs[(x.toInt - lw).toNat]? = some off → (pc : Int) + off = (tgt : Int) → P tgt lo st bc bs S → P pc lo (.int x :: st) bc bs S
theorem sn_swin (C : Wk p l e R s m args below meth c D cy tm M S0 Q QF) : rl_swin M Q (Pw p l e R s m args below meth c D cy M S0 QF) := by
  intro pc lo st bc bs S dflt lw hi offs len x off tgt hd h1 h2 h3 h4 k H locs cells slots ls hW hA hS hl hc hs
  exact lv_tableIn C.1.1 C.1.2.1 hd h1 h2 h3 h4 (k H locs cells slots ls hW hA hS hl hc hs)
def rl_swout (M : MT) (Q : Out → Sto → Prop) (P : Wt) : Prop := ∀ (pc : Nat) (lo : Lv) (st : List Value) (bc bs : Nat) (S : Sto) (dflt lw hi : Int) (offs : Array Int) (len : Nat) (x : Int32) (tgt : Nat), decode (mB M) pc = .ok (.tableswitch dflt lw hi offs, len) → (x.toInt < lw ∨ hi < x.toInt) → (pc : Int) + dflt = (tgt : Int) → P tgt lo st bc bs S → P pc lo (.int x :: st) bc bs S
theorem sn_swout (C : Wk p l e R s m args below meth c D cy tm M S0 Q QF) : rl_swout M Q (Pw p l e R s m args below meth c D cy M S0 QF) := by
  intro pc lo st bc bs S dflt lw hi offs len x tgt hd h1 h2 k H locs cells slots ls hW hA hS hl hc hs
  exact lv_tableOut C.1.1 C.1.2.1 hd h1 h2 (k H locs cells slots ls hW hA hS hl hc hs)
def rl_sub (M : MT) (Q : Out → Sto → Prop) (P : Wt) : Prop := ∀ (pc : Nat) (lo lo' : Lv) (st : List Value) (bc bs bc' bs' : Nat) (S : Sto), (∀ q ∈ lo', lget lo q.1 = some q.2) → bc' ≤ bc → bs' ≤ bs → P pc lo' st bc' bs' S → P pc lo st bc bs S
theorem sn_sub (C : Wk p l e R s m args below meth c D cy tm M S0 Q QF) : rl_sub M Q (Pw p l e R s m args below meth c D cy M S0 QF) := by
  intro pc lo lo' st bc bs bc' bs' S h h1 h2 k H locs cells slots ls hW hA hS hl hc hs
  exact k H locs cells slots ls hW hA hS ⟨hl.1, hl.2.1, fun q hq => lget_at hl (h q hq)⟩ (by omega) (by omega)
def rl_ret (M : MT) (Q : Out → Sto → Prop) (P : Wt) : Prop := ∀ (pc : Nat) (lo : Lv) (bc bs : Nat) (S : Sto) (v : Option Value), retD M pc v → Q (.inl v) S → P pc lo v.toList bc bs S
theorem sn_ret (C : Wk p l e R s m args below meth c D cy tm M S0 Q QF) : rl_ret M Q (Pw p l e R s m args below meth c D cy M S0 QF) := by
  intro pc lo bc bs S v hd k H locs cells slots ls hW hA hS hl hc hs
  exact C.2.2.2.2.2.2.2.2.2.1 v H locs cells slots S pc ls k hW hA hS (by omega) (by omega) hd
def rl_thr (M : MT) (Q : Out → Sto → Prop) (P : Wt) : Prop := ∀ (pc : Nat) (lo : Lv) (st : List Value) (bc bs : Nat) (S : Sto) (x : Nat), thD M pc x → (st.map fun v => v.category).sum ≤ 8 → 1 ≤ bc → 6 ≤ bs → Q (.inr x) S → P pc lo st bc bs S
theorem sn_thr (C : Wk p l e R s m args below meth c D cy tm M S0 Q QF) : rl_thr M Q (Pw p l e R s m args below meth c D cy M S0 QF) := by
  intro pc lo st bc bs S x hd h1 h2 h3 k H locs cells slots ls hW hA hS hl hc hs
  exact C.2.2.2.2.2.2.2.2.2.2.2 x H locs cells slots S pc ls st k hW hA hS hd hl.1 h1 (by omega) (by omega)
end Rules
