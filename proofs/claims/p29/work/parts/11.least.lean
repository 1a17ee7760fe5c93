/-! THE ABSTRACT MACHINE, 8: the least relation closed under the rules, and that it speaks of the machine -/
def Rls (E : Ek) (tm : Nat × Nat) (M : MT) (Q : Out → Sto → Prop) (P : Wt) : Nat → Prop
  | 0 => rl_iadd M Q P
  | 1 => rl_isub M Q P
  | 2 => rl_imul M Q P
  | 3 => rl_iand M Q P
  | 4 => rl_ior M Q P
  | 5 => rl_ixor M Q P
  | 6 => rl_ishl M Q P
  | 7 => rl_ishr M Q P
  | 8 => rl_idiv M Q P
  | 9 => rl_irem M Q P
  | 10 => rl_ladd M Q P
  | 11 => rl_lsub M Q P
  | 12 => rl_lmul M Q P
  | 13 => rl_land M Q P
  | 14 => rl_lor M Q P
  | 15 => rl_lxor M Q P
  | 16 => rl_ldiv M Q P
  | 17 => rl_lrem M Q P
  | 18 => rl_lshl M Q P
  | 19 => rl_lshr M Q P
  | 20 => rl_i2l M Q P
  | 21 => rl_l2i M Q P
  | 22 => rl_lcmp M Q P
  | 23 => rl_iconst M Q P
  | 24 => rl_lconst M Q P
  | 25 => rl_bipush M Q P
  | 26 => rl_sipush M Q P
  | 27 => rl_ldc M Q P
  | 28 => rl_ldcw M Q P
  | 29 => rl_ldc2 M Q P
  | 30 => rl_null M Q P
  | 31 => rl_iloadn M Q P
  | 32 => rl_iload M Q P
  | 33 => rl_lloadn M Q P
  | 34 => rl_lload M Q P
  | 35 => rl_aloadn M Q P
  | 36 => rl_aload M Q P
  | 37 => rl_istoren M Q P
  | 38 => rl_istore M Q P
  | 39 => rl_astoren M Q P
  | 40 => rl_astore M Q P
  | 41 => rl_lstoren M Q P
  | 42 => rl_lstore M Q P
  | 43 => rl_iinc M Q P
  | 44 => rl_dup M Q P
  | 45 => rl_dup2 M Q P
  | 46 => rl_dup2l M Q P
  | 47 => rl_dupx1 M Q P
  | 48 => rl_pop M Q P
  | 49 => rl_goto M Q P
  | 50 => rl_ifeq M Q P
  | 51 => rl_ifne M Q P
  | 52 => rl_iflt M Q P
  | 53 => rl_ifge M Q P
  | 54 => rl_ifgt M Q P
  | 55 => rl_ifle M Q P
  | 56 => rl_iceq M Q P
  | 57 => rl_icne M Q P
  | 58 => rl_iclt M Q P
  | 59 => rl_icge M Q P
  | 60 => rl_icgt M Q P
  | 61 => rl_icle M Q P
  | 62 => rl_aceq M Q P
  | 63 => rl_acne M Q P
  | 64 => rl_swin M Q P
  | 65 => rl_swout M Q P
  | 66 => rl_sub M Q P
  | 67 => rl_ret M Q P
  | 68 => rl_thr M Q P
  | 69 => rl_get tm M Q P
  | 70 => rl_put tm M Q P
  | 71 => rl_iald tm M Q P
  | 72 => rl_iald tm M Q P
  | 73 => rl_lald tm M Q P
  | 74 => rl_aald tm M Q P
  | 75 => rl_sald tm M Q P
  | 76 => rl_slen tm M Q P
  | 77 => rl_elen tm M Q P
  | 78 => rl_alen tm M Q P
  | 79 => rl_iast tm M Q P
  | 80 => rl_iast tm M Q P
  | 81 => rl_last tm M Q P
  | 82 => rl_aast tm M Q P
  | 83 => rl_new tm M Q P
  | 84 => rl_newi tm M Q P
  | 85 => rl_newj tm M Q P
  | 86 => rl_lneg M Q P
  | 87 => rl_newq tm M Q P
  | 88 => rl_cs E tm M Q P
  | 89 => rl_cv E tm M Q P
  | 90 => rl_ci E tm M Q P
  | 91 => rl_cn E tm M Q P
  | 92 => rl_cw E tm M Q P
  | 93 => rl_co E tm M Q P
  | 94 => rl_cast E tm M Q P
  | 95 => rl_gets E tm M Q P
  | 96 => rl_ldm E tm M Q P
  | 97 => rl_getc E tm M Q P
  | 98 => rl_acpy E tm M Q P
  | 99 => rl_catch E tm M Q P
  | _ => True
def Wp (E : Ek) (tm : Nat × Nat) (M : MT) (Q : Out → Sto → Prop) : Wt := fun pc lo st bc bs S => ∀ P : Wt, (∀ n, Rls E tm M Q P n) → P pc lo st bc bs S
section Steps
variable {E : Ek} {tm : Nat × Nat} {M : MT} {Q : Out → Sto → Prop}
theorem s_iadd {pc : Nat} {lo : Lv} {st : List Value} {bc bs : Nat} {S : Sto} {x y : Int32} (h0 : decode (mB M) pc = .ok (.iadd, 1)) (h1 : Wp E tm M Q (pc + 1) lo (.int (x + y) :: st) bc bs S) : Wp E tm M Q pc lo (.int y :: .int x :: st) bc bs S := fun P hP => (hP 0 : rl_iadd M Q P) pc lo st bc bs S x y h0 (h1 P hP)
theorem s_isub {pc : Nat} {lo : Lv} {st : List Value} {bc bs : Nat} {S : Sto} {x y : Int32} (h0 : decode (mB M) pc = .ok (.isub, 1)) (h1 : Wp E tm M Q (pc + 1) lo (.int (x - y) :: st) bc bs S) : Wp E tm M Q pc lo (.int y :: .int x :: st) bc bs S := fun P hP => (hP 1 : rl_isub M Q P) pc lo st bc bs S x y h0 (h1 P hP)
theorem s_imul {pc : Nat} {lo : Lv} {st : List Value} {bc bs : Nat} {S : Sto} {x y : Int32} (h0 : decode (mB M) pc = .ok (.imul, 1)) (h1 : Wp E tm M Q (pc + 1) lo (.int (x * y) :: st) bc bs S) : Wp E tm M Q pc lo (.int y :: .int x :: st) bc bs S := fun P hP => (hP 2 : rl_imul M Q P) pc lo st bc bs S x y h0 (h1 P hP)
theorem s_iand {pc : Nat} {lo : Lv} {st : List Value} {bc bs : Nat} {S : Sto} {x y : Int32} (h0 : decode (mB M) pc = .ok (.iand, 1)) (h1 : Wp E tm M Q (pc + 1) lo (.int (x &&& y) :: st) bc bs S) : Wp E tm M Q pc lo (.int y :: .int x :: st) bc bs S := fun P hP => (hP 3 : rl_iand M Q P) pc lo st bc bs S x y h0 (h1 P hP)
theorem s_ior {pc : Nat} {lo : Lv} {st : List Value} {bc bs : Nat} {S : Sto} {x y : Int32} (h0 : decode (mB M) pc = .ok (.ior, 1)) (h1 : Wp E tm M Q (pc + 1) lo (.int (x ||| y) :: st) bc bs S) : Wp E tm M Q pc lo (.int y :: .int x :: st) bc bs S := fun P hP => (hP 4 : rl_ior M Q P) pc lo st bc bs S x y h0 (h1 P hP)
theorem s_ixor {pc : Nat} {lo : Lv} {st : List Value} {bc bs : Nat} {S : Sto} {x y : Int32} (h0 : decode (mB M) pc = .ok (.ixor, 1)) (h1 : Wp E tm M Q (pc + 1) lo (.int (x ^^^ y) :: st) bc bs S) : Wp E tm M Q pc lo (.int y :: .int x :: st) bc bs S := fun P hP => (hP 5 : rl_ixor M Q P) pc lo st bc bs S x y h0 (h1 P hP)
theorem s_ishl {pc : Nat} {lo : Lv} {st : List Value} {bc bs : Nat} {S : Sto} {x y : Int32} (h0 : decode (mB M) pc = .ok (.ishl, 1)) (h1 : Wp E tm M Q (pc + 1) lo (.int (x <<< (y &&& 31)) :: st) bc bs S) : Wp E tm M Q pc lo (.int y :: .int x :: st) bc bs S := fun P hP => (hP 6 : rl_ishl M Q P) pc lo st bc bs S x y h0 (h1 P hP)
theorem s_ishr {pc : Nat} {lo : Lv} {st : List Value} {bc bs : Nat} {S : Sto} {x y : Int32} (h0 : decode (mB M) pc = .ok (.ishr, 1)) (h1 : Wp E tm M Q (pc + 1) lo (.int (x >>> (y &&& 31)) :: st) bc bs S) : Wp E tm M Q pc lo (.int y :: .int x :: st) bc bs S := fun P hP => (hP 7 : rl_ishr M Q P) pc lo st bc bs S x y h0 (h1 P hP)
theorem s_idiv {pc : Nat} {lo : Lv} {st : List Value} {bc bs : Nat} {S : Sto} {x y : Int32} (h0 : decode (mB M) pc = .ok (.idiv, 1)) (h1 : (¬ y = 0)) (h2 : Wp E tm M Q (pc + 1) lo (.int (x / y) :: st) bc bs S) : Wp E tm M Q pc lo (.int y :: .int x :: st) bc bs S := fun P hP => (hP 8 : rl_idiv M Q P) pc lo st bc bs S x y h0 h1 (h2 P hP)
theorem s_irem {pc : Nat} {lo : Lv} {st : List Value} {bc bs : Nat} {S : Sto} {x y : Int32} (h0 : decode (mB M) pc = .ok (.irem, 1)) (h1 : (¬ y = 0)) (h2 : Wp E tm M Q (pc + 1) lo (.int (x - x / y * y) :: st) bc bs S) : Wp E tm M Q pc lo (.int y :: .int x :: st) bc bs S := fun P hP => (hP 9 : rl_irem M Q P) pc lo st bc bs S x y h0 h1 (h2 P hP)
theorem s_ladd {pc : Nat} {lo : Lv} {st : List Value} {bc bs : Nat} {S : Sto} {x y : Int64} (h0 : decode (mB M) pc = .ok (.ladd, 1)) (h1 : Wp E tm M Q (pc + 1) lo (.long (x + y) :: st) bc bs S) : Wp E tm M Q pc lo (.long y :: .long x :: st) bc bs S := fun P hP => (hP 10 : rl_ladd M Q P) pc lo st bc bs S x y h0 (h1 P hP)
theorem s_lsub {pc : Nat} {lo : Lv} {st : List Value} {bc bs : Nat} {S : Sto} {x y : Int64} (h0 : decode (mB M) pc = .ok (.lsub, 1)) (h1 : Wp E tm M Q (pc + 1) lo (.long (x - y) :: st) bc bs S) : Wp E tm M Q pc lo (.long y :: .long x :: st) bc bs S := fun P hP => (hP 11 : rl_lsub M Q P) pc lo st bc bs S x y h0 (h1 P hP)
theorem s_lmul {pc : Nat} {lo : Lv} {st : List Value} {bc bs : Nat} {S : Sto} {x y : Int64} (h0 : decode (mB M) pc = .ok (.lmul, 1)) (h1 : Wp E tm M Q (pc + 1) lo (.long (x * y) :: st) bc bs S) : Wp E tm M Q pc lo (.long y :: .long x :: st) bc bs S := fun P hP => (hP 12 : rl_lmul M Q P) pc lo st bc bs S x y h0 (h1 P hP)
theorem s_land {pc : Nat} {lo : Lv} {st : List Value} {bc bs : Nat} {S : Sto} {x y : Int64} (h0 : decode (mB M) pc = .ok (.land, 1)) (h1 : Wp E tm M Q (pc + 1) lo (.long (x &&& y) :: st) bc bs S) : Wp E tm M Q pc lo (.long y :: .long x :: st) bc bs S := fun P hP => (hP 13 : rl_land M Q P) pc lo st bc bs S x y h0 (h1 P hP)
theorem s_lor {pc : Nat} {lo : Lv} {st : List Value} {bc bs : Nat} {S : Sto} {x y : Int64} (h0 : decode (mB M) pc = .ok (.lor, 1)) (h1 : Wp E tm M Q (pc + 1) lo (.long (x ||| y) :: st) bc bs S) : Wp E tm M Q pc lo (.long y :: .long x :: st) bc bs S := fun P hP => (hP 14 : rl_lor M Q P) pc lo st bc bs S x y h0 (h1 P hP)
theorem s_lxor {pc : Nat} {lo : Lv} {st : List Value} {bc bs : Nat} {S : Sto} {x y : Int64} (h0 : decode (mB M) pc = .ok (.lxor, 1)) (h1 : Wp E tm M Q (pc + 1) lo (.long (x ^^^ y) :: st) bc bs S) : Wp E tm M Q pc lo (.long y :: .long x :: st) bc bs S := fun P hP => (hP 15 : rl_lxor M Q P) pc lo st bc bs S x y h0 (h1 P hP)
theorem s_ldiv {pc : Nat} {lo : Lv} {st : List Value} {bc bs : Nat} {S : Sto} {x y : Int64} (h0 : decode (mB M) pc = .ok (.ldiv, 1)) (h1 : (¬ y = 0)) (h2 : Wp E tm M Q (pc + 1) lo (.long (x / y) :: st) bc bs S) : Wp E tm M Q pc lo (.long y :: .long x :: st) bc bs S := fun P hP => (hP 16 : rl_ldiv M Q P) pc lo st bc bs S x y h0 h1 (h2 P hP)
theorem s_lrem {pc : Nat} {lo : Lv} {st : List Value} {bc bs : Nat} {S : Sto} {x y : Int64} (h0 : decode (mB M) pc = .ok (.lrem, 1)) (h1 : (¬ y = 0)) (h2 : Wp E tm M Q (pc + 1) lo (.long (x - x / y * y) :: st) bc bs S) : Wp E tm M Q pc lo (.long y :: .long x :: st) bc bs S := fun P hP => (hP 17 : rl_lrem M Q P) pc lo st bc bs S x y h0 h1 (h2 P hP)
theorem s_lshl {pc : Nat} {lo : Lv} {st : List Value} {bc bs : Nat} {S : Sto} {x : Int64} {y : Int32} (h0 : decode (mB M) pc = .ok (.lshl, 1)) (h1 : Wp E tm M Q (pc + 1) lo (.long (x <<< (y.toInt64 &&& 63)) :: st) bc bs S) : Wp E tm M Q pc lo (.int y :: .long x :: st) bc bs S := fun P hP => (hP 18 : rl_lshl M Q P) pc lo st bc bs S x y h0 (h1 P hP)
theorem s_lshr {pc : Nat} {lo : Lv} {st : List Value} {bc bs : Nat} {S : Sto} {x : Int64} {y : Int32} (h0 : decode (mB M) pc = .ok (.lshr, 1)) (h1 : Wp E tm M Q (pc + 1) lo (.long (x >>> (y.toInt64 &&& 63)) :: st) bc bs S) : Wp E tm M Q pc lo (.int y :: .long x :: st) bc bs S := fun P hP => (hP 19 : rl_lshr M Q P) pc lo st bc bs S x y h0 (h1 P hP)
theorem s_i2l {pc : Nat} {lo : Lv} {st : List Value} {bc bs : Nat} {S : Sto} {x : Int32} (h0 : decode (mB M) pc = .ok (.i2l, 1)) (h1 : Wp E tm M Q (pc + 1) lo (.long x.toInt64 :: st) bc bs S) : Wp E tm M Q pc lo (.int x :: st) bc bs S := fun P hP => (hP 20 : rl_i2l M Q P) pc lo st bc bs S x h0 (h1 P hP)
theorem s_l2i {pc : Nat} {lo : Lv} {st : List Value} {bc bs : Nat} {S : Sto} {x : Int64} (h0 : decode (mB M) pc = .ok (.l2i, 1)) (h1 : Wp E tm M Q (pc + 1) lo (.int x.toInt32 :: st) bc bs S) : Wp E tm M Q pc lo (.long x :: st) bc bs S := fun P hP => (hP 21 : rl_l2i M Q P) pc lo st bc bs S x h0 (h1 P hP)
theorem s_lcmp {pc : Nat} {lo : Lv} {st : List Value} {bc bs : Nat} {S : Sto} {x y : Int64} (h0 : decode (mB M) pc = .ok (.lcmp, 1)) (h1 : Wp E tm M Q (pc + 1) lo (.int (lg_cmp x y) :: st) bc bs S) : Wp E tm M Q pc lo (.long y :: .long x :: st) bc bs S := fun P hP => (hP 22 : rl_lcmp M Q P) pc lo st bc bs S x y h0 (h1 P hP)
theorem s_iconst {pc : Nat} {lo : Lv} {st : List Value} {bc bs : Nat} {S : Sto} {n : Int} {v : Int32} (h0 : decode (mB M) pc = .ok (.iconst n, 1)) (h1 : (Int32.ofInt n = v)) (h2 : Wp E tm M Q (pc + 1) lo (.int v :: st) bc bs S) : Wp E tm M Q pc lo (st) bc bs S := fun P hP => (hP 23 : rl_iconst M Q P) pc lo st bc bs S n v h0 h1 (h2 P hP)
theorem s_lconst {pc : Nat} {lo : Lv} {st : List Value} {bc bs : Nat} {S : Sto} {n : Fin 2} {v : Int64} (h0 : decode (mB M) pc = .ok (.lconst n, 1)) (h1 : (Int64.ofNat (n : Nat) = v)) (h2 : Wp E tm M Q (pc + 1) lo (.long v :: st) bc bs S) : Wp E tm M Q pc lo (st) bc bs S := fun P hP => (hP 24 : rl_lconst M Q P) pc lo st bc bs S n v h0 h1 (h2 P hP)
theorem s_bipush {pc : Nat} {lo : Lv} {st : List Value} {bc bs : Nat} {S : Sto} {n : Int} {v : Int32} (h0 : decode (mB M) pc = .ok (.bipush n, 2)) (h1 : ((Int8.ofInt n).toInt32 = v)) (h2 : Wp E tm M Q (pc + 2) lo (.int v :: st) bc bs S) : Wp E tm M Q pc lo (st) bc bs S := fun P hP => (hP 25 : rl_bipush M Q P) pc lo st bc bs S n v h0 h1 (h2 P hP)
theorem s_sipush {pc : Nat} {lo : Lv} {st : List Value} {bc bs : Nat} {S : Sto} {n : Int} {v : Int32} (h0 : decode (mB M) pc = .ok (.sipush n, 3)) (h1 : ((Int16.ofInt n).toInt32 = v)) (h2 : Wp E tm M Q (pc + 3) lo (.int v :: st) bc bs S) : Wp E tm M Q pc lo (st) bc bs S := fun P hP => (hP 26 : rl_sipush M Q P) pc lo st bc bs S n v h0 h1 (h2 P hP)
theorem s_ldc {pc : Nat} {lo : Lv} {st : List Value} {bc bs : Nat} {S : Sto} {i : Nat} {v : Int32} (h0 : decode (mB M) pc = .ok (.ldc i, 2)) (h1 : (Cond.constant (mY M).cls i v ∈ UW)) (h2 : Wp E tm M Q (pc + 2) lo (.int v :: st) bc bs S) : Wp E tm M Q pc lo (st) bc bs S := fun P hP => (hP 27 : rl_ldc M Q P) pc lo st bc bs S i v h0 h1 (h2 P hP)
theorem s_ldcw {pc : Nat} {lo : Lv} {st : List Value} {bc bs : Nat} {S : Sto} {i : Nat} {v : Int32} (h0 : decode (mB M) pc = .ok (.ldc_w i, 3)) (h1 : (Cond.constant (mY M).cls i v ∈ UW)) (h2 : Wp E tm M Q (pc + 3) lo (.int v :: st) bc bs S) : Wp E tm M Q pc lo (st) bc bs S := fun P hP => (hP 28 : rl_ldcw M Q P) pc lo st bc bs S i v h0 h1 (h2 P hP)
theorem s_ldc2 {pc : Nat} {lo : Lv} {st : List Value} {bc bs : Nat} {S : Sto} {i : Nat} {v : Int64} (h0 : decode (mB M) pc = .ok (.ldc2_w i, 3)) (h1 : (Cond.constantLong (mY M).cls i v ∈ UW)) (h2 : Wp E tm M Q (pc + 3) lo (.long v :: st) bc bs S) : Wp E tm M Q pc lo (st) bc bs S := fun P hP => (hP 29 : rl_ldc2 M Q P) pc lo st bc bs S i v h0 h1 (h2 P hP)
theorem s_null {pc : Nat} {lo : Lv} {st : List Value} {bc bs : Nat} {S : Sto} (h0 : decode (mB M) pc = .ok (.aconst_null, 1)) (h1 : Wp E tm M Q (pc + 1) lo (.null :: st) bc bs S) : Wp E tm M Q pc lo (st) bc bs S := fun P hP => (hP 30 : rl_null M Q P) pc lo st bc bs S h0 (h1 P hP)
theorem s_iloadn {pc : Nat} {lo : Lv} {st : List Value} {bc bs : Nat} {S : Sto} {q : Fin 4} {i : Nat} {x : Int32} (h0 : decode (mB M) pc = .ok (.iload_n q, 1)) (h1 : ((q : Nat) = i)) (h2 : (lget lo i = some (.int x))) (h3 : Wp E tm M Q (pc + 1) lo (.int x :: st) bc bs S) : Wp E tm M Q pc lo (st) bc bs S := fun P hP => (hP 31 : rl_iloadn M Q P) pc lo st bc bs S q i x h0 h1 h2 (h3 P hP)
theorem s_iload {pc : Nat} {lo : Lv} {st : List Value} {bc bs : Nat} {S : Sto} {i : Nat} {x : Int32} (h0 : decode (mB M) pc = .ok (.iload i, 2)) (h1 : (lget lo i = some (.int x))) (h2 : Wp E tm M Q (pc + 2) lo (.int x :: st) bc bs S) : Wp E tm M Q pc lo (st) bc bs S := fun P hP => (hP 32 : rl_iload M Q P) pc lo st bc bs S i x h0 h1 (h2 P hP)
theorem s_lloadn {pc : Nat} {lo : Lv} {st : List Value} {bc bs : Nat} {S : Sto} {q : Fin 4} {i : Nat} {x : Int64} (h0 : decode (mB M) pc = .ok (.lload_n q, 1)) (h1 : ((q : Nat) = i)) (h2 : (lget lo i = some (.long x))) (h3 : Wp E tm M Q (pc + 1) lo (.long x :: st) bc bs S) : Wp E tm M Q pc lo (st) bc bs S := fun P hP => (hP 33 : rl_lloadn M Q P) pc lo st bc bs S q i x h0 h1 h2 (h3 P hP)
theorem s_lload {pc : Nat} {lo : Lv} {st : List Value} {bc bs : Nat} {S : Sto} {i : Nat} {x : Int64} (h0 : decode (mB M) pc = .ok (.lload i, 2)) (h1 : (lget lo i = some (.long x))) (h2 : Wp E tm M Q (pc + 2) lo (.long x :: st) bc bs S) : Wp E tm M Q pc lo (st) bc bs S := fun P hP => (hP 34 : rl_lload M Q P) pc lo st bc bs S i x h0 h1 (h2 P hP)
theorem s_aloadn {pc : Nat} {lo : Lv} {st : List Value} {bc bs : Nat} {S : Sto} {q : Fin 4} {i : Nat} {x : Nat} (h0 : decode (mB M) pc = .ok (.aload_n q, 1)) (h1 : ((q : Nat) = i)) (h2 : (lget lo i = some (.ref x))) (h3 : Wp E tm M Q (pc + 1) lo (.ref x :: st) bc bs S) : Wp E tm M Q pc lo (st) bc bs S := fun P hP => (hP 35 : rl_aloadn M Q P) pc lo st bc bs S q i x h0 h1 h2 (h3 P hP)
theorem s_aload {pc : Nat} {lo : Lv} {st : List Value} {bc bs : Nat} {S : Sto} {i : Nat} {x : Nat} (h0 : decode (mB M) pc = .ok (.aload i, 2)) (h1 : (lget lo i = some (.ref x))) (h2 : Wp E tm M Q (pc + 2) lo (.ref x :: st) bc bs S) : Wp E tm M Q pc lo (st) bc bs S := fun P hP => (hP 36 : rl_aload M Q P) pc lo st bc bs S i x h0 h1 (h2 P hP)
theorem s_istoren {pc : Nat} {lo : Lv} {st : List Value} {bc bs : Nat} {S : Sto} {q : Fin 4} {i : Nat} {x : Int32} (h0 : decode (mB M) pc = .ok (.istore_n q, 1)) (h1 : ((q : Nat) = i)) (h2 : (i < mL M)) (h3 : Wp E tm M Q (pc + 1) (lst1 i (.int x) lo) (st) bc bs S) : Wp E tm M Q pc lo (.int x :: st) bc bs S := fun P hP => (hP 37 : rl_istoren M Q P) pc lo st bc bs S q i x h0 h1 h2 (h3 P hP)
theorem s_istore {pc : Nat} {lo : Lv} {st : List Value} {bc bs : Nat} {S : Sto} {i : Nat} {x : Int32} (h0 : decode (mB M) pc = .ok (.istore i, 2)) (h1 : (i < mL M)) (h2 : Wp E tm M Q (pc + 2) (lst1 i (.int x) lo) (st) bc bs S) : Wp E tm M Q pc lo (.int x :: st) bc bs S := fun P hP => (hP 38 : rl_istore M Q P) pc lo st bc bs S i x h0 h1 (h2 P hP)
theorem s_astoren {pc : Nat} {lo : Lv} {st : List Value} {bc bs : Nat} {S : Sto} {q : Fin 4} {i : Nat} {x : Nat} (h0 : decode (mB M) pc = .ok (.astore_n q, 1)) (h1 : ((q : Nat) = i)) (h2 : (i < mL M)) (h3 : Wp E tm M Q (pc + 1) (lst1 i (.ref x) lo) (st) bc bs S) : Wp E tm M Q pc lo (.ref x :: st) bc bs S := fun P hP => (hP 39 : rl_astoren M Q P) pc lo st bc bs S q i x h0 h1 h2 (h3 P hP)
theorem s_astore {pc : Nat} {lo : Lv} {st : List Value} {bc bs : Nat} {S : Sto} {i : Nat} {x : Nat} (h0 : decode (mB M) pc = .ok (.astore i, 2)) (h1 : (i < mL M)) (h2 : Wp E tm M Q (pc + 2) (lst1 i (.ref x) lo) (st) bc bs S) : Wp E tm M Q pc lo (.ref x :: st) bc bs S := fun P hP => (hP 40 : rl_astore M Q P) pc lo st bc bs S i x h0 h1 (h2 P hP)
theorem s_lstoren {pc : Nat} {lo : Lv} {st : List Value} {bc bs : Nat} {S : Sto} {q : Fin 4} {i : Nat} {x : Int64} (h0 : decode (mB M) pc = .ok (.lstore_n q, 1)) (h1 : ((q : Nat) = i)) (h2 : (i + 1 < mL M)) (h3 : Wp E tm M Q (pc + 1) (lst2 i (.long x) lo) (st) bc bs S) : Wp E tm M Q pc lo (.long x :: st) bc bs S := fun P hP => (hP 41 : rl_lstoren M Q P) pc lo st bc bs S q i x h0 h1 h2 (h3 P hP)
theorem s_lstore {pc : Nat} {lo : Lv} {st : List Value} {bc bs : Nat} {S : Sto} {i : Nat} {x : Int64} (h0 : decode (mB M) pc = .ok (.lstore i, 2)) (h1 : (i + 1 < mL M)) (h2 : Wp E tm M Q (pc + 2) (lst2 i (.long x) lo) (st) bc bs S) : Wp E tm M Q pc lo (.long x :: st) bc bs S := fun P hP => (hP 42 : rl_lstore M Q P) pc lo st bc bs S i x h0 h1 (h2 P hP)
theorem s_iinc {pc : Nat} {lo : Lv} {st : List Value} {bc bs : Nat} {S : Sto} {i : Nat} {n : Int} {x v : Int32} (h0 : decode (mB M) pc = .ok (.iinc i n, 3)) (h1 : lget lo i = some (.int x)) (h2 : x + Int32.ofInt n = v) (h3 : i < mL M) (h4 : Wp E tm M Q (pc + 3) (lst1 i (.int v) lo) st bc bs S) : Wp E tm M Q pc lo st bc bs S := fun P hP => (hP 43 : rl_iinc M Q P) pc lo st bc bs S i n x v h0 h1 h2 h3 (h4 P hP)
theorem s_dup {pc : Nat} {lo : Lv} {st : List Value} {bc bs : Nat} {S : Sto} {v : Value} (h0 : decode (mB M) pc = .ok (.dup, 1)) (h1 : (v.category = 1)) (h2 : Wp E tm M Q (pc + 1) lo (v :: v :: st) bc bs S) : Wp E tm M Q pc lo (v :: st) bc bs S := fun P hP => (hP 44 : rl_dup M Q P) pc lo st bc bs S v h0 h1 (h2 P hP)
theorem s_dup2 {pc : Nat} {lo : Lv} {st : List Value} {bc bs : Nat} {S : Sto} {v w : Value} (h0 : decode (mB M) pc = .ok (.dup2, 1)) (h1 : (v.category = 1)) (h2 : (w.category = 1)) (h3 : Wp E tm M Q (pc + 1) lo (v :: w :: v :: w :: st) bc bs S) : Wp E tm M Q pc lo (v :: w :: st) bc bs S := fun P hP => (hP 45 : rl_dup2 M Q P) pc lo st bc bs S v w h0 h1 h2 (h3 P hP)
theorem s_dup2l {pc : Nat} {lo : Lv} {st : List Value} {bc bs : Nat} {S : Sto} {v : Value} (h0 : decode (mB M) pc = .ok (.dup2, 1)) (h1 : (v.category = 2)) (h2 : Wp E tm M Q (pc + 1) lo (v :: v :: st) bc bs S) : Wp E tm M Q pc lo (v :: st) bc bs S := fun P hP => (hP 46 : rl_dup2l M Q P) pc lo st bc bs S v h0 h1 (h2 P hP)
theorem s_dupx1 {pc : Nat} {lo : Lv} {st : List Value} {bc bs : Nat} {S : Sto} {v w : Value} (h0 : decode (mB M) pc = .ok (.dup_x1, 1)) (h1 : (v.category = 1)) (h2 : (w.category = 1)) (h3 : Wp E tm M Q (pc + 1) lo (v :: w :: v :: st) bc bs S) : Wp E tm M Q pc lo (v :: w :: st) bc bs S := fun P hP => (hP 47 : rl_dupx1 M Q P) pc lo st bc bs S v w h0 h1 h2 (h3 P hP)
theorem s_pop {pc : Nat} {lo : Lv} {st : List Value} {bc bs : Nat} {S : Sto} {v : Value} (h0 : decode (mB M) pc = .ok (.pop, 1)) (h1 : (v.category = 1)) (h2 : Wp E tm M Q (pc + 1) lo (st) bc bs S) : Wp E tm M Q pc lo (v :: st) bc bs S := fun P hP => (hP 48 : rl_pop M Q P) pc lo st bc bs S v h0 h1 (h2 P hP)
theorem s_goto {pc : Nat} {lo : Lv} {st : List Value} {bc bs : Nat} {S : Sto} {off : Int} {tgt : Nat} (h0 : decode (mB M) pc = .ok (.goto off, 3)) (h1 : ((pc : Int) + off = (tgt : Int))) (h2 : Wp E tm M Q tgt lo (st) bc bs S) : Wp E tm M Q pc lo (st) bc bs S := fun P hP => (hP 49 : rl_goto M Q P) pc lo st bc bs S off tgt h0 h1 (h2 P hP)
theorem s_ifeq {pc : Nat} {lo : Lv} {st : List Value} {bc bs : Nat} {S : Sto} {x : Int32} {off : Int} {tgt : Nat} (h0 : decode (mB M) pc = .ok (.ifCond .eq off, 3)) (h1 : (pc : Int) + off = (tgt : Int)) (h2 : (x = 0 → Wp E tm M Q tgt lo st bc bs S)) (h3 : (¬ x = 0 → Wp E tm M Q (pc + 3) lo st bc bs S)) : Wp E tm M Q pc lo (.int x :: st) bc bs S := fun P hP => (hP 50 : rl_ifeq M Q P) pc lo st bc bs S x off tgt h0 h1 (fun a0 => h2 a0 P hP) (fun a0 => h3 a0 P hP)
theorem s_ifne {pc : Nat} {lo : Lv} {st : List Value} {bc bs : Nat} {S : Sto} {x : Int32} {off : Int} {tgt : Nat} (h0 : decode (mB M) pc = .ok (.ifCond .ne off, 3)) (h1 : (pc : Int) + off = (tgt : Int)) (h2 : (¬ x = 0 → Wp E tm M Q tgt lo st bc bs S)) (h3 : (x = 0 → Wp E tm M Q (pc + 3) lo st bc bs S)) : Wp E tm M Q pc lo (.int x :: st) bc bs S := fun P hP => (hP 51 : rl_ifne M Q P) pc lo st bc bs S x off tgt h0 h1 (fun a0 => h2 a0 P hP) (fun a0 => h3 a0 P hP)
theorem s_iflt {pc : Nat} {lo : Lv} {st : List Value} {bc bs : Nat} {S : Sto} {x : Int32} {off : Int} {tgt : Nat} (h0 : decode (mB M) pc = .ok (.ifCond .lt off, 3)) (h1 : (pc : Int) + off = (tgt : Int)) (h2 : (x < 0 → Wp E tm M Q tgt lo st bc bs S)) (h3 : (¬ x < 0 → Wp E tm M Q (pc + 3) lo st bc bs S)) : Wp E tm M Q pc lo (.int x :: st) bc bs S := fun P hP => (hP 52 : rl_iflt M Q P) pc lo st bc bs S x off tgt h0 h1 (fun a0 => h2 a0 P hP) (fun a0 => h3 a0 P hP)
theorem s_ifge {pc : Nat} {lo : Lv} {st : List Value} {bc bs : Nat} {S : Sto} {x : Int32} {off : Int} {tgt : Nat} (h0 : decode (mB M) pc = .ok (.ifCond .ge off, 3)) (h1 : (pc : Int) + off = (tgt : Int)) (h2 : (0 ≤ x → Wp E tm M Q tgt lo st bc bs S)) (h3 : (¬ 0 ≤ x → Wp E tm M Q (pc + 3) lo st bc bs S)) : Wp E tm M Q pc lo (.int x :: st) bc bs S := fun P hP => (hP 53 : rl_ifge M Q P) pc lo st bc bs S x off tgt h0 h1 (fun a0 => h2 a0 P hP) (fun a0 => h3 a0 P hP)
theorem s_ifgt {pc : Nat} {lo : Lv} {st : List Value} {bc bs : Nat} {S : Sto} {x : Int32} {off : Int} {tgt : Nat} (h0 : decode (mB M) pc = .ok (.ifCond .gt off, 3)) (h1 : (pc : Int) + off = (tgt : Int)) (h2 : (0 < x → Wp E tm M Q tgt lo st bc bs S)) (h3 : (¬ 0 < x → Wp E tm M Q (pc + 3) lo st bc bs S)) : Wp E tm M Q pc lo (.int x :: st) bc bs S := fun P hP => (hP 54 : rl_ifgt M Q P) pc lo st bc bs S x off tgt h0 h1 (fun a0 => h2 a0 P hP) (fun a0 => h3 a0 P hP)
theorem s_ifle {pc : Nat} {lo : Lv} {st : List Value} {bc bs : Nat} {S : Sto} {x : Int32} {off : Int} {tgt : Nat} (h0 : decode (mB M) pc = .ok (.ifCond .le off, 3)) (h1 : (pc : Int) + off = (tgt : Int)) (h2 : (x ≤ 0 → Wp E tm M Q tgt lo st bc bs S)) (h3 : (¬ x ≤ 0 → Wp E tm M Q (pc + 3) lo st bc bs S)) : Wp E tm M Q pc lo (.int x :: st) bc bs S := fun P hP => (hP 55 : rl_ifle M Q P) pc lo st bc bs S x off tgt h0 h1 (fun a0 => h2 a0 P hP) (fun a0 => h3 a0 P hP)
theorem s_iceq {pc : Nat} {lo : Lv} {st : List Value} {bc bs : Nat} {S : Sto} {x y : Int32} {off : Int} {tgt : Nat} (h0 : decode (mB M) pc = .ok (.if_icmp .eq off, 3)) (h1 : (pc : Int) + off = (tgt : Int)) (h2 : (x = y → Wp E tm M Q tgt lo st bc bs S)) (h3 : (¬ x = y → Wp E tm M Q (pc + 3) lo st bc bs S)) : Wp E tm M Q pc lo (.int y :: .int x :: st) bc bs S := fun P hP => (hP 56 : rl_iceq M Q P) pc lo st bc bs S x y off tgt h0 h1 (fun a0 => h2 a0 P hP) (fun a0 => h3 a0 P hP)
theorem s_icne {pc : Nat} {lo : Lv} {st : List Value} {bc bs : Nat} {S : Sto} {x y : Int32} {off : Int} {tgt : Nat} (h0 : decode (mB M) pc = .ok (.if_icmp .ne off, 3)) (h1 : (pc : Int) + off = (tgt : Int)) (h2 : (¬ x = y → Wp E tm M Q tgt lo st bc bs S)) (h3 : (x = y → Wp E tm M Q (pc + 3) lo st bc bs S)) : Wp E tm M Q pc lo (.int y :: .int x :: st) bc bs S := fun P hP => (hP 57 : rl_icne M Q P) pc lo st bc bs S x y off tgt h0 h1 (fun a0 => h2 a0 P hP) (fun a0 => h3 a0 P hP)
theorem s_iclt {pc : Nat} {lo : Lv} {st : List Value} {bc bs : Nat} {S : Sto} {x y : Int32} {off : Int} {tgt : Nat} (h0 : decode (mB M) pc = .ok (.if_icmp .lt off, 3)) (h1 : (pc : Int) + off = (tgt : Int)) (h2 : (x < y → Wp E tm M Q tgt lo st bc bs S)) (h3 : (¬ x < y → Wp E tm M Q (pc + 3) lo st bc bs S)) : Wp E tm M Q pc lo (.int y :: .int x :: st) bc bs S := fun P hP => (hP 58 : rl_iclt M Q P) pc lo st bc bs S x y off tgt h0 h1 (fun a0 => h2 a0 P hP) (fun a0 => h3 a0 P hP)
theorem s_icge {pc : Nat} {lo : Lv} {st : List Value} {bc bs : Nat} {S : Sto} {x y : Int32} {off : Int} {tgt : Nat} (h0 : decode (mB M) pc = .ok (.if_icmp .ge off, 3)) (h1 : (pc : Int) + off = (tgt : Int)) (h2 : (y ≤ x → Wp E tm M Q tgt lo st bc bs S)) (h3 : (¬ y ≤ x → Wp E tm M Q (pc + 3) lo st bc bs S)) : Wp E tm M Q pc lo (.int y :: .int x :: st) bc bs S := fun P hP => (hP 59 : rl_icge M Q P) pc lo st bc bs S x y off tgt h0 h1 (fun a0 => h2 a0 P hP) (fun a0 => h3 a0 P hP)
theorem s_icgt {pc : Nat} {lo : Lv} {st : List Value} {bc bs : Nat} {S : Sto} {x y : Int32} {off : Int} {tgt : Nat} (h0 : decode (mB M) pc = .ok (.if_icmp .gt off, 3)) (h1 : (pc : Int) + off = (tgt : Int)) (h2 : (y < x → Wp E tm M Q tgt lo st bc bs S)) (h3 : (¬ y < x → Wp E tm M Q (pc + 3) lo st bc bs S)) : Wp E tm M Q pc lo (.int y :: .int x :: st) bc bs S := fun P hP => (hP 60 : rl_icgt M Q P) pc lo st bc bs S x y off tgt h0 h1 (fun a0 => h2 a0 P hP) (fun a0 => h3 a0 P hP)
theorem s_icle {pc : Nat} {lo : Lv} {st : List Value} {bc bs : Nat} {S : Sto} {x y : Int32} {off : Int} {tgt : Nat} (h0 : decode (mB M) pc = .ok (.if_icmp .le off, 3)) (h1 : (pc : Int) + off = (tgt : Int)) (h2 : (x ≤ y → Wp E tm M Q tgt lo st bc bs S)) (h3 : (¬ x ≤ y → Wp E tm M Q (pc + 3) lo st bc bs S)) : Wp E tm M Q pc lo (.int y :: .int x :: st) bc bs S := fun P hP => (hP 61 : rl_icle M Q P) pc lo st bc bs S x y off tgt h0 h1 (fun a0 => h2 a0 P hP) (fun a0 => h3 a0 P hP)
theorem s_aceq {pc : Nat} {lo : Lv} {st : List Value} {bc bs : Nat} {S : Sto} {x y : Nat} {off : Int} {tgt : Nat} (h0 : decode (mB M) pc = .ok (.if_acmp .eq off, 3)) (h1 : (pc : Int) + off = (tgt : Int)) (h2 : (x = y → Wp E tm M Q tgt lo st bc bs S)) (h3 : (¬ x = y → Wp E tm M Q (pc + 3) lo st bc bs S)) : Wp E tm M Q pc lo (.ref y :: .ref x :: st) bc bs S := fun P hP => (hP 62 : rl_aceq M Q P) pc lo st bc bs S x y off tgt h0 h1 (fun a0 => h2 a0 P hP) (fun a0 => h3 a0 P hP)
theorem s_acne {pc : Nat} {lo : Lv} {st : List Value} {bc bs : Nat} {S : Sto} {x y : Nat} {off : Int} {tgt : Nat} (h0 : decode (mB M) pc = .ok (.if_acmp .ne off, 3)) (h1 : (pc : Int) + off = (tgt : Int)) (h2 : (¬ x = y → Wp E tm M Q tgt lo st bc bs S)) (h3 : (x = y → Wp E tm M Q (pc + 3) lo st bc bs S)) : Wp E tm M Q pc lo (.ref y :: .ref x :: st) bc bs S := fun P hP => (hP 63 : rl_acne M Q P) pc lo st bc bs S x y off tgt h0 h1 (fun a0 => h2 a0 P hP) (fun a0 => h3 a0 P hP)
theorem s_swin {pc : Nat} {lo : Lv} {st : List Value} {bc bs : Nat} {S : Sto} {dflt lw hi : Int} {offs : Array Int} {len : Nat} {x : Int32} {off : Int} {tgt : Nat} (h0 : decode (mB M) pc = .ok (.tableswitch dflt lw hi offs, len)) (h1 : ¬ x.toInt < lw) (h2 : ¬ hi < x.toInt) (h3 : offs[(x.toInt - lw).toNat]? = some off) (h4 : (pc : Int) + off = (tgt : Int)) (h5 : Wp E tm M Q tgt lo st bc bs S) : Wp E tm M Q pc lo (.int x :: st) bc bs S := fun P hP => (hP 64 : rl_swin M Q P) pc lo st bc bs S dflt lw hi offs len x off tgt h0 h1 h2 h3 h4 (h5 P hP)
theorem s_swout {pc : Nat} {lo : Lv} {st : List Value} {bc bs : Nat} {S : Sto} {dflt lw hi : Int} {offs : Array Int} {len : Nat} {x : Int32} {tgt : Nat} (h0 : decode (mB M) pc = .ok (.tableswitch dflt lw hi offs, len)) (h1 : (x.toInt < lw ∨ hi < x.toInt)) (h2 : (pc : Int) + dflt = (tgt : Int)) (h3 : Wp E tm M Q tgt lo st bc bs S) : Wp E tm M Q pc lo (.int x :: st) bc bs S := fun P hP => (hP 65 : rl_swout M Q P) pc lo st bc bs S dflt lw hi offs len x tgt h0 h1 h2 (h3 P hP)
theorem s_sub {pc : Nat} {lo lo' : Lv} {st : List Value} {bc bs bc' bs' : Nat} {S : Sto} (h0 : (∀ q ∈ lo', lget lo q.1 = some q.2)) (h1 : bc' ≤ bc) (h2 : bs' ≤ bs) (h3 : Wp E tm M Q pc lo' st bc' bs' S) : Wp E tm M Q pc lo st bc bs S := fun P hP => (hP 66 : rl_sub M Q P) pc lo lo' st bc bs bc' bs' S h0 h1 h2 (h3 P hP)
theorem s_ret {pc : Nat} {lo : Lv} {bc bs : Nat} {S : Sto} {v : Option Value} (h0 : retD M pc v) (h1 : Q (.inl v) S) : Wp E tm M Q pc lo v.toList bc bs S := fun P hP => (hP 67 : rl_ret M Q P) pc lo bc bs S v h0 h1
theorem s_thr {pc : Nat} {lo : Lv} {st : List Value} {bc bs : Nat} {S : Sto} {x : Nat} (h0 : thD M pc x) (h1 : (st.map fun v => v.category).sum ≤ 8) (h2 : 1 ≤ bc) (h3 : 6 ≤ bs) (h4 : Q (.inr x) S) : Wp E tm M Q pc lo st bc bs S := fun P hP => (hP 68 : rl_thr M Q P) pc lo st bc bs S x h0 h1 h2 h3 h4
theorem s_get {pc : Nat} {lo : Lv} {st : List Value} {bc bs : Nat} {S : Sto} {idx n a ci k : Nat} {ref : String} {v : Value} (h0 : decode (mB M) pc = .ok (.getfield idx, 3)) (h1 : lkF[n]? = some ((mY M).cls, idx, ref, ci, k)) (h2 : sK S a = ci) (h3 : fv S ci a k = v) (h4 : Wp E tm M Q (pc + 3) lo (v :: st) bc bs S) : Wp E tm M Q pc lo (.ref a :: st) bc bs S := fun P hP => (hP 69 : rl_get tm M Q P) pc lo st bc bs S idx n a ci k ref v h0 h1 h2 h3 (h4 P hP)
theorem s_put {pc : Nat} {lo : Lv} {st : List Value} {bc bs : Nat} {S : Sto} {idx n a ci k : Nat} {ref : String} {v : Value} {S1 : Sto} (h0 : decode (mB M) pc = .ok (.putfield idx, 3)) (h1 : lkF[n]? = some ((mY M).cls, idx, ref, ci, k)) (h2 : sK S a = ci) (h3 : ((TT ci k).2.2.2 = false ∨ ((TT ci k).2.2.2 = true ∧ (mY M).name = "<init>" ∧ (TT ci k).1 = (mY M).cls))) (h4 : narrow (tyOf ci k) v = v) (h5 : fits (tyOf ci k) v = true) (h6 : okput S S1 ci a k v) (h7 : Wp E tm M Q (pc + 3) lo st bc bs S1) : Wp E tm M Q pc lo (v :: .ref a :: st) bc bs S := fun P hP => (hP 70 : rl_put tm M Q P) pc lo st bc bs S idx n a ci k ref v S1 h0 h1 h2 h3 h4 h5 h6 (h7 P hP)
theorem s_iald {pc : Nat} {lo : Lv} {st : List Value} {bc bs : Nat} {S : Sto} {a : Nat} {i : Int32} (h0 : decode (mB M) pc = .ok (.iaload, 1)) (h1 : (sK S a = 6)) (h2 : vp_in i (sN S a)) (h3 : Wp E tm M Q (pc + 1) lo (.int (sI S a i.toNatClampNeg) :: st) bc bs S) : Wp E tm M Q pc lo (.int i :: .ref a :: st) bc bs S := fun P hP => (hP 71 : rl_iald tm M Q P) pc lo st bc bs S a i h0 h1 h2 (h3 P hP)
theorem s_lald {pc : Nat} {lo : Lv} {st : List Value} {bc bs : Nat} {S : Sto} {a : Nat} {i : Int32} (h0 : decode (mB M) pc = .ok (.laload, 1)) (h1 : (sK S a = 7 ∨ sK S a = 10 ∨ sK S a = 11)) (h2 : vp_in i (sN S a)) (h3 : Wp E tm M Q (pc + 1) lo (.long (sJ S a i.toNatClampNeg) :: st) bc bs S) : Wp E tm M Q pc lo (.int i :: .ref a :: st) bc bs S := fun P hP => (hP 73 : rl_lald tm M Q P) pc lo st bc bs S a i h0 h1 h2 (h3 P hP)
theorem s_aald {pc : Nat} {lo : Lv} {st : List Value} {bc bs : Nat} {S : Sto} {a : Nat} {i : Int32} (h0 : decode (mB M) pc = .ok (.aaload, 1)) (h1 : (sK S a = 9)) (h2 : vp_in i (sN S a)) (h3 : Wp E tm M Q (pc + 1) lo (va_rf (sR S a i.toNatClampNeg) :: st) bc bs S) : Wp E tm M Q pc lo (.int i :: .ref a :: st) bc bs S := fun P hP => (hP 74 : rl_aald tm M Q P) pc lo st bc bs S a i h0 h1 h2 (h3 P hP)
theorem s_sald {pc : Nat} {lo : Lv} {st : List Value} {bc bs : Nat} {S : Sto} {a : Nat} {i : Int32} (h0 : decode (mB M) pc = .ok (.iaload, 1)) (h1 : sK S a = 12) (h2 : vp_in i (sN S a)) (h3 : Wp E tm M Q (pc + 1) lo (.int (sI S a i.toNatClampNeg) :: st) bc bs S) : Wp E tm M Q pc lo (.int i :: .ref a :: st) bc bs S := fun P hP => (hP 75 : rl_sald tm M Q P) pc lo st bc bs S a i h0 h1 h2 (h3 P hP)
theorem s_slen {pc : Nat} {lo : Lv} {st : List Value} {bc bs : Nat} {S : Sto} {a : Nat} (h0 : decode (mB M) pc = .ok (.arraylength, 1)) (h1 : sK S a = 12) (h2 : Wp E tm M Q (pc + 1) lo (.int (Int32.ofNat (sN S a)) :: st) bc bs S) : Wp E tm M Q pc lo (.ref a :: st) bc bs S := fun P hP => (hP 76 : rl_slen tm M Q P) pc lo st bc bs S a h0 h1 (h2 P hP)
theorem s_elen {pc : Nat} {lo : Lv} {st : List Value} {bc bs : Nat} {S : Sto} {a : Nat} (h0 : decode (mB M) pc = .ok (.arraylength, 1)) (h1 : sK S a = 13) (h2 : Wp E tm M Q (pc + 1) lo (.int 0 :: st) bc bs S) : Wp E tm M Q pc lo (.ref a :: st) bc bs S := fun P hP => (hP 77 : rl_elen tm M Q P) pc lo st bc bs S a h0 h1 (h2 P hP)
theorem s_alen {pc : Nat} {lo : Lv} {st : List Value} {bc bs : Nat} {S : Sto} {a : Nat} (h0 : decode (mB M) pc = .ok (.arraylength, 1)) (h1 : 6 ≤ sK S a) (h2 : sK S a ≤ 11) (h3 : Wp E tm M Q (pc + 1) lo (.int (Int32.ofNat (sN S a)) :: st) bc bs S) : Wp E tm M Q pc lo (.ref a :: st) bc bs S := fun P hP => (hP 78 : rl_alen tm M Q P) pc lo st bc bs S a h0 h1 h2 (h3 P hP)
theorem s_iast {pc : Nat} {lo : Lv} {st : List Value} {bc bs : Nat} {S : Sto} {a : Nat} {i : Int32} {x : Int32} (h0 : decode (mB M) pc = .ok (.iastore, 1)) (h1 : (sK S a = 6)) (h2 : vp_in i (sN S a)) (h3 : Wp E tm M Q (pc + 1) lo st bc bs (uI S a i.toNatClampNeg x)) : Wp E tm M Q pc lo (.int x :: .int i :: .ref a :: st) bc bs S := fun P hP => (hP 79 : rl_iast tm M Q P) pc lo st bc bs S a i x h0 h1 h2 (h3 P hP)
theorem s_last {pc : Nat} {lo : Lv} {st : List Value} {bc bs : Nat} {S : Sto} {a : Nat} {i : Int32} {x : Int64} (h0 : decode (mB M) pc = .ok (.lastore, 1)) (h1 : (sK S a = 7 ∨ sK S a = 10 ∨ sK S a = 11)) (h2 : vp_in i (sN S a)) (h3 : Wp E tm M Q (pc + 1) lo st bc bs (uJ S a i.toNatClampNeg x)) : Wp E tm M Q pc lo (.long x :: .int i :: .ref a :: st) bc bs S := fun P hP => (hP 81 : rl_last tm M Q P) pc lo st bc bs S a i x h0 h1 h2 (h3 P hP)
theorem s_aast {pc : Nat} {lo : Lv} {st : List Value} {bc bs : Nat} {S : Sto} {a v : Nat} {i : Int32} (h0 : decode (mB M) pc = .ok (.aastore, 1)) (h1 : sK S a = 9) (h2 : 1 ≤ sK S v) (h3 : sK S v ≤ 3) (h4 : vp_in i (sN S a)) (h5 : Wp E tm M Q (pc + 1) lo st bc bs (uR S a i.toNatClampNeg (some v))) : Wp E tm M Q pc lo (.ref v :: .int i :: .ref a :: st) bc bs S := fun P hP => (hP 82 : rl_aast tm M Q P) pc lo st bc bs S a v i h0 h1 h2 h3 h4 (h5 P hP)
theorem s_new {pc : Nat} {lo : Lv} {st : List Value} {bc bs : Nat} {S : Sto} {idx n ci : Nat} (h0 : decode (mB M) pc = .ok (.new idx, 3)) (h1 : lkC[n]? = some ((mY M).cls, idx, ci)) (h2 : 1 ≤ bc) (h3 : nOf ci ≤ bs) (h4 : (∀ a, sK S a = 99 → Wp E tm M Q (pc + 3) lo (.ref a :: st) (bc - 1) (bs - nOf ci) (sal S a ci 0))) : Wp E tm M Q pc lo st bc bs S := fun P hP => (hP 83 : rl_new tm M Q P) pc lo st bc bs S idx n ci h0 h1 h2 h3 (fun a0 a1 => h4 a0 a1 P hP)
theorem s_newi {pc : Nat} {lo : Lv} {st : List Value} {bc bs : Nat} {S : Sto} {n : Int32} {N kd : Nat} (h0 : decode (mB M) pc = .ok (.newarray .int, 2)) (h1 : (kd = 6)) (h2 : ¬ n < 0) (h3 : n.toNatClampNeg = N) (h4 : N ≤ 1000) (h5 : 1 ≤ bc) (h6 : N ≤ bs) (h7 : (∀ a, sK S a = 99 → Wp E tm M Q (pc + 2) lo (.ref a :: st) (bc - 1) (bs - N) (sal S a kd N))) : Wp E tm M Q pc lo (.int n :: st) bc bs S := fun P hP => (hP 84 : rl_newi tm M Q P) pc lo st bc bs S n N kd h0 h1 h2 h3 h4 h5 h6 (fun a0 a1 => h7 a0 a1 P hP)
theorem s_newj {pc : Nat} {lo : Lv} {st : List Value} {bc bs : Nat} {S : Sto} {n : Int32} {N kd : Nat} (h0 : decode (mB M) pc = .ok (.newarray .long, 2)) (h1 : (kd = 7 ∨ kd = 10 ∨ kd = 11)) (h2 : ¬ n < 0) (h3 : n.toNatClampNeg = N) (h4 : N ≤ 1000) (h5 : 1 ≤ bc) (h6 : N ≤ bs) (h7 : (∀ a, sK S a = 99 → Wp E tm M Q (pc + 2) lo (.ref a :: st) (bc - 1) (bs - N) (sal S a kd N))) : Wp E tm M Q pc lo (.int n :: st) bc bs S := fun P hP => (hP 85 : rl_newj tm M Q P) pc lo st bc bs S n N kd h0 h1 h2 h3 h4 h5 h6 (fun a0 a1 => h7 a0 a1 P hP)
theorem s_lneg {pc : Nat} {lo : Lv} {st : List Value} {bc bs : Nat} {S : Sto} {x : Int64} (h0 : decode (mB M) pc = .ok (.lneg, 1)) (h1 : Wp E tm M Q (pc + 1) lo (.long (-x) :: st) bc bs S) : Wp E tm M Q pc lo (.long x :: st) bc bs S := fun P hP => (hP 86 : rl_lneg M Q P) pc lo st bc bs S x h0 (h1 P hP)
theorem s_newq {pc : Nat} {lo : Lv} {st : List Value} {bc bs : Nat} {S : Sto} {n : Int32} {N idx : Nat} (h0 : decode (mB M) pc = .ok (.anewarray idx, 3)) (h1 : Cond.classLink (mY M).cls idx "java/lang/Object" ∈ UW) (h2 : ¬ n < 0) (h3 : n.toNatClampNeg = N) (h4 : N ≤ 1000) (h5 : 1 ≤ bc) (h6 : N ≤ bs) (h7 : (∀ a, sK S a = 99 → Wp E tm M Q (pc + 3) lo (.ref a :: st) (bc - 1) (bs - N) (sal S a 9 N))) : Wp E tm M Q pc lo (.int n :: st) bc bs S := fun P hP => (hP 87 : rl_newq tm M Q P) pc lo st bc bs S n N idx h0 h1 h2 h3 h4 h5 h6 (fun a0 a1 => h7 a0 a1 P hP)
theorem s_cs {pc : Nat} {lo : Lv} {st : List Value} {bc bs : Nat} {S : Sto} {n idx : Nat} {M' : MT} {as : List Value} {Rq : Out → Sto → Prop} (h0 : decode (mB M) pc = .ok (.invokestatic idx, 3)) (h1 : lkS[n]? = some ((mY M).cls, idx, M')) (h2 : as.length = mP M') (h3 : mFr M' + 1 ≤ mFr M) (h4 : 19 + mL M' + mLo M' ≤ mLo M) (h5 : mC M' ≤ bc) (h6 : mS M' ≤ bs) (h7 : (st.map fun v => v.category).sum ≤ 8) (h8 : E M' as S Rq) (h9 : (∀ r S1, Rq (.inl r) S1 → Wp E tm M Q (pc + 3) lo (r.toList ++ st) (bc - mC M') (bs - mS M') S1)) (h10 : (∀ x S1, Rq (.inr x) S1 → mH M = [] ∧ Q (.inr x) S1)) : Wp E tm M Q pc lo (as.reverse ++ st) bc bs S := fun P hP => (hP 88 : rl_cs E tm M Q P) pc lo st bc bs S n idx M' as Rq h0 h1 h2 h3 h4 h5 h6 h7 h8 (fun a0 a1 a2 => h9 a0 a1 a2 P hP) h10
theorem s_cv {pc : Nat} {lo : Lv} {st : List Value} {bc bs : Nat} {S : Sto} {n idx b : Nat} {M' : MT} {as : List Value} {Rq : Out → Sto → Prop} (h0 : decode (mB M) pc = .ok (.invokevirtual idx, 3)) (h1 : lkV[n]? = some ((mY M).cls, idx, M')) (h2 : (sK S b < 6 ∧ (vwCl[sK S b]?).map (fun r => r.1) = some (mY M').cls)) (h3 : as.length = mP M') (h4 : mFr M' + 1 ≤ mFr M) (h5 : 19 + mL M' + mLo M' ≤ mLo M) (h6 : mC M' ≤ bc) (h7 : mS M' ≤ bs) (h8 : (st.map fun v => v.category).sum ≤ 8) (h9 : E M' (.ref b :: as) S Rq) (h10 : (∀ r S1, Rq (.inl r) S1 → Wp E tm M Q (pc + 3) lo (r.toList ++ st) (bc - mC M') (bs - mS M') S1)) (h11 : (∀ x S1, Rq (.inr x) S1 → mH M = [] ∧ Q (.inr x) S1)) : Wp E tm M Q pc lo (as.reverse ++ .ref b :: st) bc bs S := fun P hP => (hP 89 : rl_cv E tm M Q P) pc lo st bc bs S n idx b M' as Rq h0 h1 h2 h3 h4 h5 h6 h7 h8 h9 (fun a0 a1 a2 => h10 a0 a1 a2 P hP) h11
theorem s_ci {pc : Nat} {lo : Lv} {st : List Value} {bc bs : Nat} {S : Sto} {n idx b : Nat} {M' : MT} {as : List Value} {Rq : Out → Sto → Prop} (h0 : decode (mB M) pc = .ok (.invokespecial idx, 3)) (h1 : lkI[n]? = some ((mY M).cls, idx, M')) (h2 : as.length = mP M') (h3 : mFr M' + 1 ≤ mFr M) (h4 : 19 + mL M' + mLo M' ≤ mLo M) (h5 : mC M' ≤ bc) (h6 : mS M' ≤ bs) (h7 : (st.map fun v => v.category).sum ≤ 8) (h8 : E M' (.ref b :: as) S Rq) (h9 : (∀ r S1, Rq (.inl r) S1 → Wp E tm M Q (pc + 3) lo (r.toList ++ st) (bc - mC M') (bs - mS M') S1)) (h10 : (∀ x S1, ¬ Rq (.inr x) S1)) : Wp E tm M Q pc lo (as.reverse ++ .ref b :: st) bc bs S := fun P hP => (hP 90 : rl_ci E tm M Q P) pc lo st bc bs S n idx b M' as Rq h0 h1 h2 h3 h4 h5 h6 h7 h8 (fun a0 a1 a2 => h9 a0 a1 a2 P hP) h10
theorem s_cn {pc : Nat} {lo : Lv} {st : List Value} {bc bs : Nat} {S : Sto} {n idx : Nat} {M' : MT} {as : List Value} {Rq : Out → Sto → Prop} (h0 : decode (mB M) pc = .ok (.invokestatic idx, 3)) (h1 : lkN[n]? = some ((mY M).cls, idx, M')) (h2 : as.length = mP M') (h3 : mFr M' + 1 ≤ mFr M) (h4 : 19 + mL M' + mLo M' ≤ mLo M) (h5 : mC M' ≤ bc) (h6 : mS M' ≤ bs) (h7 : (st.map fun v => v.category).sum ≤ 8) (h8 : E M' as S Rq) (h9 : (∀ r S1, Rq (.inl r) S1 → Wp E tm M Q (pc + 3) lo (r.toList ++ st) (bc - mC M') (bs - mS M') S1)) (h10 : (∀ x S1, ¬ Rq (.inr x) S1)) : Wp E tm M Q pc lo (as.reverse ++ st) bc bs S := fun P hP => (hP 91 : rl_cn E tm M Q P) pc lo st bc bs S n idx M' as Rq h0 h1 h2 h3 h4 h5 h6 h7 h8 (fun a0 a1 a2 => h9 a0 a1 a2 P hP) h10
theorem s_cw {pc : Nat} {lo : Lv} {st : List Value} {bc bs : Nat} {S : Sto} {n idx : Nat} {M' : MT} {as : List Value} {Rq : Out → Sto → Prop} (h0 : decode (mB M) pc = .ok (.invokestatic idx, 3)) (h1 : lkW[n]? = some ((mY M).cls, idx, M')) (h2 : as.length = mP M') (h3 : mFr M' + 1 ≤ mFr M) (h4 : 19 + mL M' + mLo M' ≤ mLo M) (h5 : mC M' ≤ bc) (h6 : mS M' ≤ bs) (h7 : (st.map fun v => v.category).sum ≤ 8) (h8 : E M' as S Rq) (h9 : (∀ r S1, Rq (.inl r) S1 → Wp E tm M Q (pc + 3) lo (r.toList ++ st) (bc - mC M') (bs - mS M') S1)) (h10 : (∀ x S1, ¬ Rq (.inr x) S1)) : Wp E tm M Q pc lo (as.reverse ++ st) bc bs S := fun P hP => (hP 92 : rl_cw E tm M Q P) pc lo st bc bs S n idx M' as Rq h0 h1 h2 h3 h4 h5 h6 h7 h8 (fun a0 a1 a2 => h9 a0 a1 a2 P hP) h10
theorem s_co {pc : Nat} {lo : Lv} {st : List Value} {bc bs : Nat} {S : Sto} {n idx b : Nat} (h0 : decode (mB M) pc = .ok (.invokespecial idx, 3)) (h1 : lkO[n]? = some ((mY M).cls, idx)) (h2 : 1 ≤ mFr M) (h3 : 20 ≤ mLo M) (h4 : (st.map fun v => v.category).sum ≤ 8) (h5 : Wp E tm M Q (pc + 3) lo st bc bs S) : Wp E tm M Q pc lo (.ref b :: st) bc bs S := fun P hP => (hP 93 : rl_co E tm M Q P) pc lo st bc bs S n idx b h0 h1 h2 h3 h4 (h5 P hP)
theorem s_cast {pc : Nat} {lo : Lv} {st : List Value} {bc bs : Nat} {S : Sto} {n idx a ci : Nat} (h0 : decode (mB M) pc = .ok (.checkcast idx, 3)) (h1 : lkC[n]? = some ((mY M).cls, idx, ci)) (h2 : sK S a = ci) (h3 : Wp E tm M Q (pc + 3) lo (.ref a :: st) bc bs S) : Wp E tm M Q pc lo (.ref a :: st) bc bs S := fun P hP => (hP 94 : rl_cast E tm M Q P) pc lo st bc bs S n idx a ci h0 h1 h2 (h3 P hP)
theorem s_gets {pc : Nat} {lo : Lv} {st : List Value} {bc bs : Nat} {S : Sto} (h0 : decode (mB M) pc = .ok (.getstatic 39, 3)) (h1 : (mY M).cls = "java/util/ArrayList") (h2 : Wp E tm M Q (pc + 3) lo (.ref tm.1 :: st) bc bs S) : Wp E tm M Q pc lo st bc bs S := fun P hP => (hP 95 : rl_gets E tm M Q P) pc lo st bc bs S h0 h1 (h2 P hP)
theorem s_ldm {pc : Nat} {lo : Lv} {st : List Value} {bc bs : Nat} {S : Sto} (h0 : decode (mB M) pc = .ok (.ldc 110, 2)) (h1 : (mY M).cls = "java/util/Arrays") (h2 : Wp E tm M Q (pc + 2) lo (.ref tm.2 :: st) bc bs S) : Wp E tm M Q pc lo st bc bs S := fun P hP => (hP 96 : rl_ldm E tm M Q P) pc lo st bc bs S h0 h1 (h2 P hP)
theorem s_getc {pc : Nat} {lo : Lv} {st : List Value} {bc bs : Nat} {S : Sto} {a : Nat} (h0 : decode (mB M) pc = .ok (.invokevirtual 86, 3)) (h1 : (mY M).cls = "java/util/Arrays") (h2 : sK S a = 9) (h3 : 1 ≤ mFr M) (h4 : 22 ≤ mLo M) (h5 : (st.map fun v => v.category).sum ≤ 8) (h6 : Wp E tm M Q (pc + 3) lo (.ref tm.2 :: st) bc bs S) : Wp E tm M Q pc lo (.ref a :: st) bc bs S := fun P hP => (hP 97 : rl_getc E tm M Q P) pc lo st bc bs S a h0 h1 h2 h3 h4 h5 (h6 P hP)
theorem s_acpy {pc : Nat} {lo : Lv} {st : List Value} {bc bs : Nat} {S : Sto} {a a0 ci : Nat} {sp dp n : Int32} (h0 : decode (mB M) pc = .ok (.invokestatic 150, 3)) (h1 : (mY M).cls = "java/util/Arrays") (h2 : sK S a = 9) (h3 : sK S a0 = 9) (h4 : 1 ≤ ci) (h5 : ci ≤ 3) (h6 : ¬ sp < 0) (h7 : ¬ dp < 0) (h8 : ¬ n < 0) (h9 : sp.toNatClampNeg + n.toNatClampNeg ≤ sN S a0) (h10 : dp.toNatClampNeg + n.toNatClampNeg ≤ sN S a) (h11 : (∀ i : Nat, i < n.toNatClampNeg → ∀ y : Nat, sR S a0 (sp.toNatClampNeg + i) = some y → sK S y = ci)) (h12 : 1 ≤ mFr M) (h13 : 8 + (nativeFrameWords "java/lang/System" "arraycopy" 5 + 11) ≤ mLo M) (h14 : (st.map fun v => v.category).sum ≤ 8) (h15 : Wp E tm M Q (pc + 3) lo st bc bs (uRr S a (va_cpy (sR S a0) (sR S a) sp.toNatClampNeg dp.toNatClampNeg n.toNatClampNeg))) : Wp E tm M Q pc lo (.int n :: .int dp :: .ref a :: .int sp :: .ref a0 :: st) bc bs S := fun P hP => (hP 98 : rl_acpy E tm M Q P) pc lo st bc bs S a a0 ci sp dp n h0 h1 h2 h3 h4 h5 h6 h7 h8 h9 h10 h11 h12 h13 h14 (h15 P hP)
theorem s_catch {pc : Nat} {lo : Lv} {st : List Value} {bc bs : Nat} {S : Sto} {n idx b h hn j : Nat} {M' : MT} {as : List Value} {x : Nat} {Rq : Out → Sto → Prop} {pre suf : List (Nat × Nat × Nat × Nat)} {sp ep ct : Nat} (h0 : decode (mB M) pc = .ok (.invokevirtual idx, 3)) (h1 : lkV[n]? = some ((mY M).cls, idx, M')) (h2 : (sK S b < 6 ∧ (vwCl[sK S b]?).map (fun r => r.1) = some (mY M').cls)) (h3 : as.length = mP M') (h4 : mFr M' + 1 ≤ mFr M) (h5 : 19 + mL M' + mLo M' ≤ mLo M) (h6 : mC M' ≤ bc) (h7 : mS M' ≤ bs) (h8 : (st.map fun v => v.category).sum ≤ 8) (h9 : E M' (.ref b :: as) S Rq) (h10 : (∀ r S1, ¬ Rq (.inl r) S1)) (h11 : (∀ x' S1', Rq (.inr x') S1' → x' = x)) (h12 : mH M = pre ++ (sp, ep, h, ct) :: suf) (h13 : sp ≤ pc) (h14 : pc < ep) (h15 : ct ≠ 0) (h16 : Cond.classLink (mY M).cls ct (exN x) ∈ UW) (h17 : Cond.castable (exN x) (exN x) ∈ UW) (h18 : (∀ z ∈ pre, z.2.2.2 ≠ 0 ∧ ∃ y, y ≠ x ∧ 1 ≤ y ∧ y ≤ 3 ∧ y = 2 ∧ Cond.classLink (mY M).cls z.2.2.2 (exN y) ∈ UW)) (h19 : 1 ≤ x) (h20 : x ≤ 3) (h21 : ((∃ q : Fin 4, decode (mB M) h = .ok (.astore_n q, 1) ∧ (q : Nat) = j ∧ hn = h + 1) ∨ (decode (mB M) h = .ok (.astore j, 2) ∧ hn = h + 2))) (h22 : j < mL M) (h23 : ∀ S1, Rq (.inr x) S1 → Wp E tm M Q hn [] [] (bc - mC M') (bs - mS M') S1) : Wp E tm M Q pc lo (as.reverse ++ .ref b :: st) bc bs S := fun P hP => (hP 99 : rl_catch E tm M Q P) pc lo st bc bs S n idx b h hn j M' as x Rq pre suf sp ep ct h0 h1 h2 h3 h4 h5 h6 h7 h8 h9 h10 h11 h12 h13 h14 h15 h16 h17 h18 h19 h20 h21 h22 (fun a0 a1 => h23 a0 a1 P hP)
end Steps
theorem Rls.mono {E E' : Ek} {tm : Nat × Nat} {M : MT} {Q : Out → Sto → Prop} {P : Wt} (hm : ∀ M as S R, E M as S R → E' M as S R) : ∀ n, Rls E' tm M Q P n → Rls E tm M Q P n
  | 0, h => h
  | 1, h => h
  | 2, h => h
  | 3, h => h
  | 4, h => h
  | 5, h => h
  | 6, h => h
  | 7, h => h
  | 8, h => h
  | 9, h => h
  | 10, h => h
  | 11, h => h
  | 12, h => h
  | 13, h => h
  | 14, h => h
  | 15, h => h
  | 16, h => h
  | 17, h => h
  | 18, h => h
  | 19, h => h
  | 20, h => h
  | 21, h => h
  | 22, h => h
  | 23, h => h
  | 24, h => h
  | 25, h => h
  | 26, h => h
  | 27, h => h
  | 28, h => h
  | 29, h => h
  | 30, h => h
  | 31, h => h
  | 32, h => h
  | 33, h => h
  | 34, h => h
  | 35, h => h
  | 36, h => h
  | 37, h => h
  | 38, h => h
  | 39, h => h
  | 40, h => h
  | 41, h => h
  | 42, h => h
  | 43, h => h
  | 44, h => h
  | 45, h => h
  | 46, h => h
  | 47, h => h
  | 48, h => h
  | 49, h => h
  | 50, h => h
  | 51, h => h
  | 52, h => h
  | 53, h => h
  | 54, h => h
  | 55, h => h
  | 56, h => h
  | 57, h => h
  | 58, h => h
  | 59, h => h
  | 60, h => h
  | 61, h => h
  | 62, h => h
  | 63, h => h
  | 64, h => h
  | 65, h => h
  | 66, h => h
  | 67, h => h
  | 68, h => h
  | 69, h => h
  | 70, h => h
  | 71, h => h
  | 72, h => h
  | 73, h => h
  | 74, h => h
  | 75, h => h
  | 76, h => h
  | 77, h => h
  | 78, h => h
  | 79, h => h
  | 80, h => h
  | 81, h => h
  | 82, h => h
  | 83, h => h
  | 84, h => h
  | 85, h => h
  | 86, h => h
  | 87, h => h
  | 88, hzz => fun pc lo st bc bs S n idx M' as Rq h0 h1 h2 h3 h4 h5 h6 h7 h8 h9 h10 => (hzz : rl_cs E' tm M Q P) pc lo st bc bs S n idx M' as Rq h0 h1 h2 h3 h4 h5 h6 h7 (hm _ _ _ _ h8) h9 h10
  | 89, hzz => fun pc lo st bc bs S n idx b M' as Rq h0 h1 h2 h3 h4 h5 h6 h7 h8 h9 h10 h11 => (hzz : rl_cv E' tm M Q P) pc lo st bc bs S n idx b M' as Rq h0 h1 h2 h3 h4 h5 h6 h7 h8 (hm _ _ _ _ h9) h10 h11
  | 90, hzz => fun pc lo st bc bs S n idx b M' as Rq h0 h1 h2 h3 h4 h5 h6 h7 h8 h9 h10 => (hzz : rl_ci E' tm M Q P) pc lo st bc bs S n idx b M' as Rq h0 h1 h2 h3 h4 h5 h6 h7 (hm _ _ _ _ h8) h9 h10
  | 91, hzz => fun pc lo st bc bs S n idx M' as Rq h0 h1 h2 h3 h4 h5 h6 h7 h8 h9 h10 => (hzz : rl_cn E' tm M Q P) pc lo st bc bs S n idx M' as Rq h0 h1 h2 h3 h4 h5 h6 h7 (hm _ _ _ _ h8) h9 h10
  | 92, hzz => fun pc lo st bc bs S n idx M' as Rq h0 h1 h2 h3 h4 h5 h6 h7 h8 h9 h10 => (hzz : rl_cw E' tm M Q P) pc lo st bc bs S n idx M' as Rq h0 h1 h2 h3 h4 h5 h6 h7 (hm _ _ _ _ h8) h9 h10
  | 93, h => h
  | 94, h => h
  | 95, h => h
  | 96, h => h
  | 97, h => h
  | 98, h => h
  | 99, hzz => fun pc lo st bc bs S n idx b h hn j M' as x Rq pre suf sp ep ct h0 h1 h2 h3 h4 h5 h6 h7 h8 h9 h10 h11 h12 h13 h14 h15 h16 h17 h18 h19 h20 h21 h22 h23 => (hzz : rl_catch E' tm M Q P) pc lo st bc bs S n idx b h hn j M' as x Rq pre suf sp ep ct h0 h1 h2 h3 h4 h5 h6 h7 h8 (hm _ _ _ _ h9) h10 h11 h12 h13 h14 h15 h16 h17 h18 h19 h20 h21 h22 h23
  | _ + 100, _ => trivial
theorem Wp.mono {E E' : Ek} {tm : Nat × Nat} {M : MT} {Q : Out → Sto → Prop} {pc : Nat} {lo : Lv} {st : List Value} {bc bs : Nat} {S : Sto} (hm : ∀ M as S R, E M as S R → E' M as S R) (h : Wp E tm M Q pc lo st bc bs S) : Wp E' tm M Q pc lo st bc bs S := fun P hP => h P (fun n => Rls.mono hm n (hP n))
section Sound
variable {p : Program} {l : Launch} {e : Env} {R : Room} {s : State} {m : MethodId} {args : Array Value} {below : List Frame} {meth : Method} {c : Code}
variable {D : va_G} {cy : Nat → ClassId} {tm : Nat × Nat} {M : MT} {S0 : Sto} {Q : Out → Sto → Prop} {QF : State → Prop}
theorem Rls.pw (C : Wk p l e R s m args below meth c D cy tm M S0 Q QF) : ∀ n, Rls (Kt tm) tm M Q (Pw p l e R s m args below meth c D cy M S0 QF) n
  | 0 => sn_iadd C
  | 1 => sn_isub C
  | 2 => sn_imul C
  | 3 => sn_iand C
  | 4 => sn_ior C
  | 5 => sn_ixor C
  | 6 => sn_ishl C
  | 7 => sn_ishr C
  | 8 => sn_idiv C
  | 9 => sn_irem C
  | 10 => sn_ladd C
  | 11 => sn_lsub C
  | 12 => sn_lmul C
  | 13 => sn_land C
  | 14 => sn_lor C
  | 15 => sn_lxor C
  | 16 => sn_ldiv C
  | 17 => sn_lrem C
  | 18 => sn_lshl C
  | 19 => sn_lshr C
  | 20 => sn_i2l C
  | 21 => sn_l2i C
  | 22 => sn_lcmp C
  | 23 => sn_iconst C
  | 24 => sn_lconst C
  | 25 => sn_bipush C
  | 26 => sn_sipush C
  | 27 => sn_ldc C
  | 28 => sn_ldcw C
  | 29 => sn_ldc2 C
  | 30 => sn_null C
  | 31 => sn_iloadn C
  | 32 => sn_iload C
  | 33 => sn_lloadn C
  | 34 => sn_lload C
  | 35 => sn_aloadn C
  | 36 => sn_aload C
  | 37 => sn_istoren C
  | 38 => sn_istore C
  | 39 => sn_astoren C
  | 40 => sn_astore C
  | 41 => sn_lstoren C
  | 42 => sn_lstore C
  | 43 => sn_iinc C
  | 44 => sn_dup C
  | 45 => sn_dup2 C
  | 46 => sn_dup2l C
  | 47 => sn_dupx1 C
  | 48 => sn_pop C
  | 49 => sn_goto C
  | 50 => sn_ifeq C
  | 51 => sn_ifne C
  | 52 => sn_iflt C
  | 53 => sn_ifge C
  | 54 => sn_ifgt C
  | 55 => sn_ifle C
  | 56 => sn_iceq C
  | 57 => sn_icne C
  | 58 => sn_iclt C
  | 59 => sn_icge C
  | 60 => sn_icgt C
  | 61 => sn_icle C
  | 62 => sn_aceq C
  | 63 => sn_acne C
  | 64 => sn_swin C
  | 65 => sn_swout C
  | 66 => sn_sub C
  | 67 => sn_ret C
  | 68 => sn_thr C
  | 69 => sn_get C
  | 70 => sn_put C
  | 71 => sn_iald C
  | 72 => sn_iald C
  | 73 => sn_lald C
  | 74 => sn_aald C
  | 75 => sn_sald C
  | 76 => sn_slen C
  | 77 => sn_elen C
  | 78 => sn_alen C
  | 79 => sn_iast C
  | 80 => sn_iast C
  | 81 => sn_last C
  | 82 => sn_aast C
  | 83 => sn_new C
  | 84 => sn_newi C
  | 85 => sn_newj C
  | 86 => sn_lneg C
  | 87 => sn_newq C
  | 88 => sn_cs C
  | 89 => sn_cv C
  | 90 => sn_ci C
  | 91 => sn_cn C
  | 92 => sn_cw C
  | 93 => sn_co C
  | 94 => sn_cast C
  | 95 => sn_gets C
  | 96 => sn_ldm C
  | 97 => sn_getc C
  | 98 => sn_acpy C
  | 99 => sn_catch C
  | _ + 100 => trivial
theorem Wp.go (C : Wk p l e R s m args below meth c D cy tm M S0 Q QF) {pc : Nat} {lo : Lv} {st : List Value} {bc bs : Nat} {S : Sto} (h : Wp (Kt tm) tm M Q pc lo st bc bs S) : Pw p l e R s m args below meth c D cy M S0 QF pc lo st bc bs S := h _ (Rls.pw C)
end Sound
theorem vx_ofWHF {l : Launch} {y : MethodName} {ws ws' : List Cond} {rm : Room} {Pc : Array Value → State → Prop} {Qc : Array Value → State → Outcome → State → Prop} {XC : String → State → State → Prop} {mc ms : Nat} {free : Addr → Prop} {cc : ByteArray} {maxL : Nat} {ret : Option FieldType} {hh : List (Nat × Nat × Nat × Nat)}
    (hy : plainFor y = true) (hw : ws = Cond.codeWith y cc maxL ret hh :: ws')
    (body : ∀ p e s m args below meth c s₁, BodyLoose p l y (headSpec ws rm) cc maxL ret e s m args below meth c s₁ → c.maxLocals = maxL → c.exceptionTable.toList = tableOf hh → Pc args s →
      W p l e (headSpec ws rm).room s m args below meth c s.heap [] 0 0 (vx_MQ below Qc XC args s mc ms free) (entryFrame m args maxL)) : vx_Met l y ws rm Pc Qc XC mc ms free := by
  refine MetFree.of_bodySF (code := cc) (maxLocals := maxL) (ret := ret) hy ?_ ?_
  · intro args s m h hn
    obtain ⟨m9, meth, c, hn9, h1, h2, h3, h4, -, h5, h6, -⟩ := Cond.codeWith_spec (atoms_spec (ws := ws) h _ (by rw [hw]; exact List.mem_cons_self))
    cases hn.symm.trans hn9
    exact ⟨meth, c, h1, h2, h3, h4, h5, h6⟩
  · intro p e s m args below meth c s₁ B hml hP _
    have hh0 : s₁.heap = s.heap := by rw [B.state]; rfl
    have ht : c.exceptionTable.toList = tableOf hh := vx_table (x := y) B (atoms_spec (ws := ws) B.pre _ (by rw [hw]; exact List.mem_cons_self))
    obtain ⟨t, a1, o, b1, b2, b3⟩ := body p e s m args below meth c s₁ B hml ht hP s₁ hh0 (Stand.of_body B)
    exact ⟨t, o, a1, b1, b2, b3⟩
def okX (z : Nat × Nat × Nat) : Prop := Bundle.fit (exN z.1) = true ∧ Cond.classLink "Claimclub" z.2.1 (exN z.1) ∈ UW ∧ Cond.initialized (exN z.1) ∈ UW ∧ (∀ w ∈ vx_atS "Claimclub" z.2.2 (exN z.1) ["java/lang/RuntimeException", "java/lang/Exception"], w ∈ UW) ∧ (∀ w ∈ Cond.classLink "Claimclub" z.2.1 (exN z.1) :: Cond.initialized (exN z.1) :: vx_atS "Claimclub" z.2.2 (exN z.1) ["java/lang/RuntimeException", "java/lang/Exception"], vx_ot w = true)
set_option maxRecDepth 20000 in
theorem okX_1 : okX (1, 363, 367) := ⟨by decide +kernel, uw (i := 172) rfl rfl, uw (i := 39) rfl rfl, by decide +kernel, by decide +kernel⟩
set_option maxRecDepth 20000 in
theorem okX_2 : okX (2, 93, 97) := ⟨by decide +kernel, uw (i := 301) rfl rfl, uw (i := 41) rfl rfl, by decide +kernel, by decide +kernel⟩
set_option maxRecDepth 20000 in
theorem okX_3 : okX (3, 311, 315) := ⟨by decide +kernel, uw (i := 460) rfl rfl, uw (i := 46) rfl rfl, by decide +kernel, by decide +kernel⟩
theorem exL_ok : ∀ z ∈ exL, okX z := List.forall_mem_cons.mpr ⟨okX_1, List.forall_mem_cons.mpr ⟨okX_2, List.forall_mem_cons.mpr ⟨okX_3, fun _ h => absurd h List.not_mem_nil⟩⟩⟩
/-- a method's run, at arguments and a store, ends in Q -/
def Ev (tm : Nat × Nat) : Ek := fun M as S Q => ∀ E : Ek, (∀ M as S Q, MOK M → (lg_sl as).length ≤ mL M → Wp E tm M Q 0 (lv_args 0 as) [] (mC M) (mS M) S → E M as S Q) → E M as S Q
theorem ev_in {tm : Nat × Nat} {M : MT} {as : List Value} {S : Sto} {Q : Out → Sto → Prop} (ok : MOK M) (hl : (lg_sl as).length ≤ mL M) (h : Wp (Ev tm) tm M Q 0 (lv_args 0 as) [] (mC M) (mS M) S) : Ev tm M as S Q := fun E hE => hE M as S Q ok hl (Wp.mono (fun _ _ _ _ z => z E hE) h)
set_option maxHeartbeats 4000000 in
theorem kt_in {tm : Nat × Nat} {M : MT} {as : List Value} {S : Sto} {Q : Out → Sto → Prop} (ok : MOK M) (hlen : (lg_sl as).length ≤ mL M) (h : Wp (Kt tm) tm M Q 0 (lv_args 0 as) [] (mC M) (mS M) S) : Kt tm M as S Q := by
  intro l hfl D cy sz
  have hst : l.stackTraces = false := by
    rw [Launch.stackTraces, hfl]; decide
  have body : ∀ p e s m args below meth c s₁, BodyLoose p l (mY M) (headSpec (cwM M :: UW) (rmM M)) (mB M) (mL M) (mT M) e s m args below meth c s₁ → c.maxLocals = mL M → c.exceptionTable.toList = tableOf (mH M) → cPc D cy tm as S sz args s →
      W p l e (headSpec (cwM M :: UW) (rmM M)).room s m args below meth c s.heap [] 0 0 (vx_MQ below (cQc D cy S sz Q) (cXc D cy S sz Q) args s (mC M) (mS M) (cA S sz)) (entryFrame m args (mL M)) := by
    intro p e s m args below meth c s₁ B hml ht hv
    obtain ⟨rfl, hsz, hWS, hK, hZ, h13⟩ := hv
    subst hsz
    have hts : ∀ w ∈ UW, w.before as.toArray s = true := fun w hw => atoms_spec (ws := cwM M :: UW) B.pre w (List.mem_cons_of_mem _ hw)
    have hx := B.exec
    have hb := B.bytes
    have hr := B.returns
    have hlocks := B.notSynchronized
    have hown := findClass_of_methodNamed B.named
    have C : Wk p l e (rmM M) s m as.toArray below meth c D cy tm M S Q (vx_MQ below (cQc D cy S s.heap.size Q) (cXc D cy S s.heap.size Q) as.toArray s (mC M) (mS M) (cA S s.heap.size)) := by
      refine ⟨⟨hx, hb, hml, hown, hts⟩, hfl, hK, hZ, hWS, ⟨rfl, rfl⟩, fun hi => (name_of_methodNamed B.named B.method).1.trans hi, h13, fun _ => ht, ?_, ?_, ?_⟩
      · intro v H locs cells slots S1 pc ls hQ hW hA hS hc hs hd
        have hq : ∀ t : State, t.heap = H → s.WarmedH t.vm → cQc D cy S s.heap.size Q as.toArray s (.returned v) t := fun t hth hWt => ⟨v, S1, rfl, hQ, hA, by rw [hth]; exact WS.moved hWt.alike hW, hS.F hth⟩
        refine W.widen hc hs (vx_ret ?_)
        match v, hd, hq with
        | none, hd, hq => exact W.vret hx hb (hr.trans hd.2) hq hS.2.2 hd.1 hlocks
        | some (.int x), hd, hq =>
          obtain ⟨hd, ty, hty, hn⟩ := hd
          exact W.zret hx hb (hr.trans hty) hn hq hS.2.2 hd hlocks
        | some (.long x), hd, hq => exact W.lret hx hb (hr.trans hd.2) hq hS.2.2 hd.1 hlocks
        | some (.ref a), hd, hq =>
          obtain ⟨hd, ty, hty, hn⟩ := hd
          exact W.aret hx hb (hr.trans hty) hn (Or.inr ⟨a, rfl⟩) hq hS.2.2 hd hlocks
        | some .null, hd, hq =>
          obtain ⟨hd, ty, hty, hn⟩ := hd
          exact W.aret hx hb (hr.trans hty) hn (Or.inl rfl) hq hS.2.2 hd hlocks
      · intro x q ce H locs cells slots S1 pc ls rest hQ hW hA hS hc hs hH g1 g2 g3
        refine vx_out (fun z hz => ?_) hlocks g1 g2 g3 (fun t hth hal => ⟨x, S1, rfl, hQ, hA, by rw [hth]; exact WS.moved hal hW, hS.F hth⟩) hS.2.2 hc hs
        rw [ht, hH] at hz
        cases hz
      · intro x H locs cells slots S1 pc ls rest hQ hW hA hS hd hsize hcat hc hs
        obtain ⟨ho, hH, hfr, hlo, ik, ic, is, tx, hex, hstr, d0, d3, hdd⟩ := hd
        obtain ⟨sa, hsa⟩ := hZ.2.2.2.2.1 _ hstr
        have hxx := exL_ok _ hex
        have hout : ∀ pc' : Nat, ∀ z ∈ c.exceptionTable.toList, covers z pc' = false := fun pc' z hz => by
          rw [ht, hH] at hz
          cases hz
        have hXC : ∀ t : State, s.vm.Alike t.vm → H.size ≤ t.heap.size → (∀ q : Nat, q < H.size → t.heap[q]? = H[q]?) → cXc D cy S s.heap.size Q (exN x) s t := fun t hal hz hq => ⟨x, S1, rfl, hQ, hA, WS.moved hal (hW.ext hq), Nat.le_trans hS.1 hz, fun q h1 h2 => by rw [hq q (Nat.lt_of_lt_of_le h1 hS.1)]; exact hS.2.1 q h1 h2⟩
        rcases hdd with ⟨d4, d6, d9⟩ | ⟨d4, d7, d10⟩
        · exact vx_throwS (own := "Claimclub") (cls := exN x) (names := ["java/lang/RuntimeException", "java/lang/Exception"]) hx hb hst (by rw [← ho]; exact hown) hxx.1 (by decide +kernel) (hts _ hxx.2.1) (hts _ hxx.2.2.1) hsa (fun w hw => hts _ (hxx.2.2.2.1 w hw)) hxx.2.2.2.2 hZ.1 hZ.2.1 hS (hsize.trans hml.symm) d0 d3 d4 d6 d9 (hout _) (by show 2 + 3 < mFr M; omega) (by show _ ≤ mLo M; simp only [List.length_cons, List.length_nil]; omega) hc hs hlocks hXC hS.2.2 hc hs
        · exact vx_throwSW (own := "Claimclub") (cls := exN x) (names := ["java/lang/RuntimeException", "java/lang/Exception"]) hx hb hst (by rw [← ho]; exact hown) hxx.1 (by decide +kernel) (hts _ hxx.2.1) (hts _ hxx.2.2.1) hsa (fun w hw => hts _ (hxx.2.2.2.1 w hw)) hxx.2.2.2.2 hZ.1 hZ.2.1 hS (hsize.trans hml.symm) d0 d3 d4 d7 d10 (hout _) (by show 2 + 3 < mFr M; omega) (by show _ ≤ mLo M; simp only [List.length_cons, List.length_nil]; omega) hc hs hlocks hXC hS.2.2 hc hs
    rw [lg_entry_eq]
    exact Wp.go C h s.heap [] 0 0 _ hWS Af.rf va_S.rf (lv_entry as hlen) (Nat.le_of_eq (Nat.zero_add _)) (Nat.le_of_eq (Nat.zero_add _))
  by_cases hh : mH M = []
  · exact vx_ofWF ok.1 (by rw [cw_hs hh]) (fun p e s m args below meth c s₁ B hml ht hv => body p e s m args below meth c s₁ B hml (by rw [hh]; exact ht) hv)
  · exact vx_ofWHF ok.1 (by rw [cw_hx hh]) body
theorem ev_sound {tm : Nat × Nat} {M : MT} {as : List Value} {S : Sto} {Q : Out → Sto → Prop} (h : Ev tm M as S Q) : Kt tm M as S Q := h (Kt tm) (fun _ _ _ _ ok hl w => kt_in ok hl w)
