/-! THE ABSTRACT MACHINE, 7: calls -/
theorem met_of {l : Launch} {y : MethodName} {ws : List Cond} {rm : Room} {Pc : Array Value → State → Prop} {Qc : Array Value → State → Outcome → State → Prop} {XC : String → State → State → Prop} {mc ms : Nat} {free : Addr → Prop} (h : vx_Met l y ws rm Pc Qc XC mc ms free) (hx : ∀ E st t, ¬ XC E st t) : Met l y ws rm Pc Qc mc ms free := fun p e a1 a2 a3 s m args below h1 h2 h3 h4 => by
  obtain ⟨n, o, g1, g2, g3, g4⟩ := h p e a1 a2 a3 s m args below h1 h2 h3 h4
  rcases g4 with g4 | ⟨q, -, E, ce, L, hX, -⟩
  · exact ⟨n, o, g1, g2, g3, g4⟩
  · exact absurd hX (hx _ _ _)
theorem vx_ofWF {l : Launch} {y : MethodName} {ws ws' : List Cond} {rm : Room} {Pc : Array Value → State → Prop} {Qc : Array Value → State → Outcome → State → Prop} {XC : String → State → State → Prop} {mc ms : Nat} {free : Addr → Prop} {cc : ByteArray} {maxL : Nat} {ret : Option FieldType}
    (hy : plainFor y = true) (hw : ws = Cond.code y cc maxL ret :: ws')
    (body : ∀ p e s m args below meth c s₁, BodyLoose p l y (headSpec ws rm) cc maxL ret e s m args below meth c s₁ → c.maxLocals = maxL → c.exceptionTable.toList = tableOf [] → Pc args s →
      W p l e (headSpec ws rm).room s m args below meth c s.heap [] 0 0 (vx_MQ below Qc XC args s mc ms free) (entryFrame m args maxL)) : vx_Met l y ws rm Pc Qc XC mc ms free := by
  refine MetFree.of_bodySF (code := cc) (maxLocals := maxL) (ret := ret) hy ?_ ?_
  · intro args s m h hn
    obtain ⟨meth, c, h1, h2, h3, h4, h5, h6, -, -⟩ := Cond.code_spec hn (atoms_spec (ws := ws) h _ (by rw [hw]; exact List.mem_cons_self))
    exact ⟨meth, c, h1, h2, h3, h4, h5, h6⟩
  · intro p e s m args below meth c s₁ B hml hP _
    have hh0 : s₁.heap = s.heap := by rw [B.state]; rfl
    have ht : c.exceptionTable.toList = tableOf [] := by
      obtain ⟨meth9, c9, h1, h2, -, -, -, -, h7, -⟩ := Cond.code_spec B.named (atoms_spec (ws := ws) B.pre _ (by rw [hw]; exact List.mem_cons_self))
      cases Option.some.inj (h1.symm.trans B.method)
      cases Option.some.inj (h2.symm.trans (Stand.of_body B).code)
      rw [Array.isEmpty_iff.mp h7]
      rfl
    obtain ⟨t, a1, o, b1, b2, b3⟩ := body p e s m args below meth c s₁ B hml ht hP s₁ hh0 (Stand.of_body B)
    exact ⟨t, o, a1, b1, b2, b3⟩
set_option maxRecDepth 20000 in
theorem oiI : Cond.instanceMethod Lib.objectInit ∈ UW := uw (i := 55) rfl rfl
set_option maxRecDepth 20000 in
theorem oiC : Cond.code Lib.objectInit ⟨#[0xb1]⟩ 1 none ∈ UW := uw (i := 56) rfl rfl
set_option maxRecDepth 20000 in
theorem gsW : Cond.fieldLink "java/util/ArrayList" 39 "java/util/ArrayList" "DEFAULTCAPACITY_EMPTY_ELEMENTDATA" "[Ljava/lang/Object;" ∈ UW := uw (i := 69) rfl rfl
set_option maxRecDepth 20000 in
theorem lmW : Cond.classLink "java/util/Arrays" 110 "[Ljava/lang/Object;" ∈ UW := uw (i := 441) rfl rfl
set_option maxRecDepth 20000 in
theorem gc1 : Cond.methodLink "java/util/Arrays" 86 ⟨"java/lang/Object", "getClass", "()Ljava/lang/Class;"⟩ ∈ UW := uw (i := 426) rfl rfl
set_option maxRecDepth 20000 in
theorem gc2 : Cond.declares ⟨"java/lang/Object", "getClass", "()Ljava/lang/Class;"⟩ ∈ UW := uw (i := 827) rfl rfl
set_option maxRecDepth 20000 in
theorem gc3 : Cond.selects "[Ljava/lang/Object;" ⟨"java/lang/Object", "getClass", "()Ljava/lang/Class;"⟩ ⟨"java/lang/Object", "getClass", "()Ljava/lang/Class;"⟩ ∈ UW := uw (i := 826) rfl rfl
set_option maxRecDepth 20000 in
theorem gc4 : Cond.instanceMethod ⟨"java/lang/Object", "getClass", "()Ljava/lang/Class;"⟩ ∈ UW := uw (i := 427) rfl rfl
set_option maxRecDepth 20000 in
theorem gc5 : Cond.native ⟨"java/lang/Object", "getClass", "()Ljava/lang/Class;"⟩ ∈ UW := uw (i := 437) rfl rfl
set_option maxRecDepth 20000 in
theorem ac1 : Cond.methodLink "java/util/Arrays" 150 arraycopyName ∈ UW := uw (i := 447) rfl rfl
set_option maxRecDepth 20000 in
theorem ac2 : Cond.native arraycopyName ∈ UW := uw (i := 449) rfl rfl
set_option maxRecDepth 20000 in
theorem ac3 : Cond.static arraycopyName ∈ UW := uw (i := 448) rfl rfl
set_option maxRecDepth 20000 in
theorem ac4 : Cond.initialized "java/lang/System" ∈ UW := uw (i := 45) rfl rfl
section Calls
variable {p : Program} {l : Launch} {e : Env} {R : Room} {s : State} {m : MethodId} {args : Array Value} {below : List Frame} {meth : Method} {c : Code}
variable {D : va_G} {cy : Nat → ClassId} {tm : Nat × Nat} {M : MT} {S0 : Sto} {Q : Out → Sto → Prop} {QF : State → Prop}
theorem Wk.kind13 (C : Wk p l e R s m args below meth c D cy tm M S0 Q QF) {S : Sto} (hA : Af S0 S s.heap.size) : sK S tm.1 = 13 := by
  have h := C.2.2.2.2.2.2.2.1
  rw [(hA tm.1).1 (by omega), h]
/-- the callee's start, seen from the caller -/
theorem Wk.pre (C : Wk p l e R s m args below meth c D cy tm M S0 Q QF) {S : Sto} {H : Heap} {locs : List Loc} (hW : WS D cy s S H) (hA : Af S0 S s.heap.size) (hS : va_S (cA S0 s.heap.size) s.heap H locs) (as : List Value) : PreS s H (cPc D cy tm as S H.size) as :=
  ⟨cPc.blind, fun U hU hW1 => ⟨rfl, by rw [hU], by rw [hU]; exact WS.moved hW1.alike hW, va_K.moved hW1.alike C.2.2.1, by rw [hU]; exact Zs.go hW1 hS (hA.sub hS.1) C.2.2.2.1, C.kind13 hA⟩⟩
/-- behind a call -/
theorem run_go (C : Wk p l e R s m args below meth c D cy tm M S0 Q QF) {M' : MT} {as : List Value} {Rq : Out → Sto → Prop} {S : Sto} {H : Heap} {locs : List Loc} {cells slots bc bs : Nat} {pc : Nat} {ls : Array Slot} {lo : Lv} {st0 rest : List Value}
    (hr : vx_Run p l e R s m args below meth c H locs cells slots (mC M') (mS M') (F0 m pc ls st0) rest (cQc D cy S H.size Rq as.toArray) (cXc D cy S H.size Rq) (cA S H.size))
    (hA : Af S0 S s.heap.size) (hS : va_S (cA S0 s.heap.size) s.heap H locs) (hl : lv_has ls (mL M) lo) (hc : cells + bc ≤ R.cells) (hs : slots + bs ≤ R.slots) (hb1 : mC M' ≤ bc) (hb2 : mS M' ≤ bs)
    (kk : ∀ r S1, Rq (.inl r) S1 → Pw p l e R s m args below meth c D cy M S0 QF (pc + 3) lo (r.toList ++ rest) (bc - mC M') (bs - mS M') S1)
    (kx : ∀ x S1, Rq (.inr x) S1 → ∀ (q : Addr) (ce : Cell) (H1 : Heap) (locs1 : List Loc), WS D cy s S1 H1 → Af S0 S1 s.heap.size → va_S (cA S0 s.heap.size) s.heap H1 locs1 → H1[q]? = some ce → ce.vm = .none → s.vm.findClass (exN x) = some ce.cls → vx_W p l e R s m args below meth c H1 locs1 (cells + mC M') (slots + mS M') QF (F0 m pc ls rest) q) :
    W p l e R s m args below meth c H locs cells slots QF (F0 m pc ls st0) := by
  intro T hT X
  have fin : ∀ (st₀ t T' : State) (L : List Loc) (S1 : Sto), st₀.heap = H → s.vm.Alike t.vm → (∀ q ∈ L, cA S H.size q.base) → T'.heap = t.heap → cEnd D cy S H.size S1 st₀ t → WS D cy s S1 T'.heap ∧ Af S0 S1 s.heap.size ∧ va_S (cA S0 s.heap.size) s.heap T'.heap (locs ++ L) := by
    intro st₀ t T' L S1 h0 hal hL e1 hE
    obtain ⟨g1, g2, g3, g4⟩ := hE
    rw [h0] at g3 g4
    refine ⟨by rw [e1]; exact WS.moved hal.symm g2, hA.tr g1 hS.1, by rw [e1]; exact Nat.le_trans hS.1 g3, fun q h1 h2 => ?_, fun q hq => ?_⟩
    · rw [e1, g4 q (Nat.lt_of_lt_of_le h1 hS.1) (fun z => h2 (hA.sub hS.1 q z))]
      exact hS.2.1 q h1 h2
    · rcases List.mem_append.mp hq with h | h
      · exact hS.2.2 q h
      · exact hA.sub hS.1 _ (hL q h)
  rcases hr T hT X with ⟨v, st₀, t, T', L, h0, X', hL, e1, e2, ⟨r, S1, hv, hR, hE⟩, st⟩ | ⟨q, st₀, t, T', L, E, ce, h0, X', hL, e1, e2, ⟨x, S1, hv, hR, hE⟩, hce, hcv, hcl, st⟩
  · cases hv
    obtain ⟨f1, f2, f3⟩ := fin st₀ t T' L S1 h0 (by rw [← e2]; exact X'.warmed.alike) hL e1 hE
    obtain ⟨t2, a1, b1⟩ := kk v S1 hR T'.heap (locs ++ L) (cells + mC M') (slots + mS M') ls f1 f2 f3 hl (by omega) (by omega) T' rfl X'
    exact ⟨t2, st t2 a1, b1⟩
  · subst hv
    obtain ⟨f1, f2, f3⟩ := fin st₀ t T' L S1 h0 (by rw [← e2]; exact X'.warmed.alike) hL e1 hE
    obtain ⟨t2, a1, b1⟩ := kx x S1 hR q ce T'.heap (locs ++ L) f1 f2 f3 (by rw [e1]; exact hce) hcv hcl T' rfl X'
    exact ⟨t2, st.trans a1, b1⟩
theorem mok_hs {M' : MT} (h : MOK M') (hh : mH M' = []) : Cond.code (mY M') (mB M') (mL M') (mT M') ∈ UW := by
  have := h.2.1
  unfold cwM at this
  rw [hh] at this
  exact this
theorem mok_hx {M' : MT} (h : MOK M') (hh : mH M' ≠ []) : Cond.codeWith (mY M') (mB M') (mL M') (mT M') (mH M') ∈ UW := by
  have := h.2.1
  unfold cwM at this
  cases e : mH M' with
  | nil => exact absurd e hh
  | cons a b =>
    rw [e] at this
    exact this
theorem cw_hs {M' : MT} (hh : mH M' = []) : cwM M' = Cond.code (mY M') (mB M') (mL M') (mT M') := by
  unfold cwM
  rw [hh]
theorem cw_hx {M' : MT} (hh : mH M' ≠ []) : cwM M' = Cond.codeWith (mY M') (mB M') (mL M') (mT M') (mH M') := by
  unfold cwM
  cases e : mH M' with
  | nil => exact absurd e hh
  | cons a b => rfl
theorem mok_len {M' : MT} (h : MOK M') {n : Nat} (hn : n = mP M') : ∀ sig, parseMethodDescriptor (mY M').desc = some sig → n = sig.parameters.length := fun sig e => by
  have h2 := h.2.2.2.2
  rw [e] at h2
  rw [hn]
  exact (Option.some.inj h2).symm
theorem Wk.words (C : Wk p l e R s m args below meth c D cy tm M S0 Q QF) {M' : MT} (h : MOK M') : ∀ w ∈ cwM M' :: UW, ∀ (a' : Array Value) (U : State), s.WarmedH U.vm → w.before a' U = true := fun w hw a' U hW => by
  rcases List.mem_cons.mp hw with e | hw
  · exact UW_at C.1.2.2.2.2 w (by rw [e]; exact h.2.1) a' U hW
  · exact UW_at C.1.2.2.2.2 w hw a' U hW
theorem Wk.callB (C : Wk p l e R s m args below meth c D cy tm M S0 Q QF) {M' : MT} {own : String} {idx n : Nat} (h : MOK M') (hh : mH M' = []) (hr1 : mFr M' + 1 ≤ mFr M) (hr2 : 19 + mL M' + mLo M' ≤ mLo M) (hn : n = mP M') (hw : Cond.methodLink own idx (mY M') ∈ UW) : CallB R s args own idx (mY M') (mB M') (mL M') (mT M') (cwM M' :: UW) (rmM M') (mC M') (mS M') n :=
  ⟨rfl, rfl, by rw [C.2.2.2.2.2.1.1]; exact hr1, by rw [C.2.2.2.2.2.1.2]; show 8 + (mL M' + 11) + mLo M' ≤ _; omega, C.words h, by rw [cw_hs hh]; exact List.mem_cons_self, C.1.2.2.2.2 _ (mok_hs h hh), C.1.2.2.2.2 _ h.2.2.1, h.2.2.2.1, mok_len h hn, C.1.2.2.2.2 _ hw⟩

def rl_cs (E : Ek) (tm : Nat × Nat) (M : MT) (Q : Out → Sto → Prop) (P : Wt) : Prop := ∀ (pc : Nat) (lo : Lv) (st : List Value) (bc bs : Nat) (S : Sto), ∀ (n idx : Nat) (M' : MT) (as : List Value) (Rq : Out → Sto → Prop), decode (mB M) pc = .ok (.invokestatic idx, 3) → lkS[n]? = some ((mY M).cls, idx, M') → as.length = mP M' → mFr M' + 1 ≤ mFr M → 19 + mL M' + mLo M' ≤ mLo M → mC M' ≤ bc → mS M' ≤ bs → (st.map fun v => v.category).sum ≤ 8 → E M' as S Rq → (∀ r S1, Rq (.inl r) S1 → P (pc + 3) lo (r.toList ++ st) (bc - mC M') (bs - mS M') S1) → (∀ x S1, Rq (.inr x) S1 → mH M = [] ∧ Q (.inr x) S1) → P pc lo (as.reverse ++ st) bc bs S
theorem sn_cs (C : Wk p l e R s m args below meth c D cy tm M S0 Q QF) : rl_cs (Kt tm) tm M Q (Pw p l e R s m args below meth c D cy M S0 QF) := by
  intro pc lo st bc bs S
  intro n idx M' as Rq hd hn hlen hr1 hr2 hb1 hb2 hcat hE kk kx H locs cells slots ls hW hA hS hl hc hs
  obtain ⟨ok, hh, w1, w2⟩ := lkS_ok _ (List.mem_of_getElem? hn)
  exact run_go C (vx_runS C.1 (hE l C.2.1 D cy H.size) ⟨C.callB ok hh hr1 hr2 hlen w1, C.1.2.2.2.2 _ w2⟩ (C.pre hW hA hS as) rfl rfl hl.1 rfl (lv_room hcat) hd ⟨by omega, by omega⟩) hA hS hl hc hs hb1 hb2 kk (fun x S1 hx q ce H1 locs1 f1 f2 f3 g1 g2 g3 => C.2.2.2.2.2.2.2.2.2.2.1 x q ce H1 locs1 _ _ S1 pc ls st (kx x S1 hx).2 f1 f2 f3 (by omega) (by omega) (kx x S1 hx).1 g1 g2 g3)
def rl_cv (E : Ek) (tm : Nat × Nat) (M : MT) (Q : Out → Sto → Prop) (P : Wt) : Prop := ∀ (pc : Nat) (lo : Lv) (st : List Value) (bc bs : Nat) (S : Sto), ∀ (n idx b : Nat) (M' : MT) (as : List Value) (Rq : Out → Sto → Prop), decode (mB M) pc = .ok (.invokevirtual idx, 3) → lkV[n]? = some ((mY M).cls, idx, M') → (sK S b < 6 ∧ (vwCl[sK S b]?).map (fun r => r.1) = some (mY M').cls) → as.length = mP M' → mFr M' + 1 ≤ mFr M → 19 + mL M' + mLo M' ≤ mLo M → mC M' ≤ bc → mS M' ≤ bs → (st.map fun v => v.category).sum ≤ 8 → E M' (.ref b :: as) S Rq → (∀ r S1, Rq (.inl r) S1 → P (pc + 3) lo (r.toList ++ st) (bc - mC M') (bs - mS M') S1) → (∀ x S1, Rq (.inr x) S1 → mH M = [] ∧ Q (.inr x) S1) → P pc lo (as.reverse ++ .ref b :: st) bc bs S
theorem sn_cv (C : Wk p l e R s m args below meth c D cy tm M S0 Q QF) : rl_cv (Kt tm) tm M Q (Pw p l e R s m args below meth c D cy M S0 QF) := by
  intro pc lo st bc bs S
  intro n idx b M' as Rq hd hn hk hlen hr1 hr2 hb1 hb2 hcat hE kk kx H locs cells slots ls hW hA hS hl hc hs
  obtain ⟨ok, hh, w1, w2, w3⟩ := lkV_ok _ (List.mem_of_getElem? hn)
  have hP := hW.one (a := b) (by omega)
  rw [ent_obj rfl hk.1] at hP
  obtain ⟨r, hr, hrc⟩ : ∃ r, vwCl[sK S b]? = some r ∧ r.1 = (mY M').cls := by
    cases hz : vwCl[sK S b]? with
    | none => rw [hz] at hk; cases hk.2
    | some r => rw [hz] at hk; exact ⟨r, rfl, Option.some.inj hk.2⟩
  have hrec := va_recv C.2.2.1 hP (ci := sK S b) (q0 := 0) hr rfl
  rw [hrc] at hrec
  have hpre := C.pre hW hA hS (.ref b :: as)
  exact run_go C (vx_runV C.1 (hE l C.2.1 D cy H.size) ⟨C.callB ok hh hr1 hr2 hlen w1, C.1.2.2.2.2 _ w2, C.1.2.2.2.2 _ w3⟩ ⟨hpre.1, hrec, hpre.2⟩ rfl rfl hl.1 rfl (lv_room hcat) hd ⟨by omega, by omega⟩) hA hS hl hc hs hb1 hb2 kk (fun x S1 hx q ce H1 locs1 f1 f2 f3 g1 g2 g3 => C.2.2.2.2.2.2.2.2.2.2.1 x q ce H1 locs1 _ _ S1 pc ls st (kx x S1 hx).2 f1 f2 f3 (by omega) (by omega) (kx x S1 hx).1 g1 g2 g3)
def rl_ci (E : Ek) (tm : Nat × Nat) (M : MT) (Q : Out → Sto → Prop) (P : Wt) : Prop := ∀ (pc : Nat) (lo : Lv) (st : List Value) (bc bs : Nat) (S : Sto), ∀ (n idx b : Nat) (M' : MT) (as : List Value) (Rq : Out → Sto → Prop), decode (mB M) pc = .ok (.invokespecial idx, 3) → lkI[n]? = some ((mY M).cls, idx, M') → as.length = mP M' → mFr M' + 1 ≤ mFr M → 19 + mL M' + mLo M' ≤ mLo M → mC M' ≤ bc → mS M' ≤ bs → (st.map fun v => v.category).sum ≤ 8 → E M' (.ref b :: as) S Rq → (∀ r S1, Rq (.inl r) S1 → P (pc + 3) lo (r.toList ++ st) (bc - mC M') (bs - mS M') S1) → (∀ x S1, ¬ Rq (.inr x) S1) → P pc lo (as.reverse ++ .ref b :: st) bc bs S
theorem sn_ci (C : Wk p l e R s m args below meth c D cy tm M S0 Q QF) : rl_ci (Kt tm) tm M Q (Pw p l e R s m args below meth c D cy M S0 QF) := by
  intro pc lo st bc bs S
  intro n idx b M' as Rq hd hn hlen hr1 hr2 hb1 hb2 hcat hE kk kx H locs cells slots ls hW hA hS hl hc hs
  obtain ⟨ok, hh, w1, w2, w3, w4⟩ := lkI_ok _ (List.mem_of_getElem? hn)
  have hpre := C.pre hW hA hS (.ref b :: as)
  have hM := met_of (hE l C.2.1 D cy H.size) (fun E st t hX => by obtain ⟨x, S1, -, hR, -⟩ := hX; exact kx x S1 hR)
  have hcb := C.callB ok hh hr1 hr2 hlen w1
  dsimp only at w4
  rw [w4] at hcb
  have hrun := va_runI (p := p) (l := l) (e := e) (R := R) (s := s) (m := m) (args := args) (below := below) (meth := meth) (c := c) (H := H) (b := b) (rest := st) (g := F0 m pc ls (as.reverse ++ .ref b :: st)) C.1 hM ⟨hcb, w3, C.1.2.2.2.2 _ w2⟩ hpre rfl rfl hl.1 rfl (lv_room hcat) hd (cells := cells) (slots := slots) (locs := locs) ⟨by omega, by omega⟩
  exact run_go C (fun T hT X => Or.inl (hrun T hT X)) hA hS hl hc hs hb1 hb2 kk (fun x S1 hx => absurd hx (kx x S1))
def rl_cn (E : Ek) (tm : Nat × Nat) (M : MT) (Q : Out → Sto → Prop) (P : Wt) : Prop := ∀ (pc : Nat) (lo : Lv) (st : List Value) (bc bs : Nat) (S : Sto), ∀ (n idx : Nat) (M' : MT) (as : List Value) (Rq : Out → Sto → Prop), decode (mB M) pc = .ok (.invokestatic idx, 3) → lkN[n]? = some ((mY M).cls, idx, M') → as.length = mP M' → mFr M' + 1 ≤ mFr M → 19 + mL M' + mLo M' ≤ mLo M → mC M' ≤ bc → mS M' ≤ bs → (st.map fun v => v.category).sum ≤ 8 → E M' as S Rq → (∀ r S1, Rq (.inl r) S1 → P (pc + 3) lo (r.toList ++ st) (bc - mC M') (bs - mS M') S1) → (∀ x S1, ¬ Rq (.inr x) S1) → P pc lo (as.reverse ++ st) bc bs S
theorem sn_cn (C : Wk p l e R s m args below meth c D cy tm M S0 Q QF) : rl_cn (Kt tm) tm M Q (Pw p l e R s m args below meth c D cy M S0 QF) := by
  intro pc lo st bc bs S
  intro n idx M' as Rq hd hn hlen hr1 hr2 hb1 hb2 hcat hE kk kx H locs cells slots ls hW hA hS hl hc hs
  obtain ⟨ok, hh, w1, w2⟩ := lkN_ok _ (List.mem_of_getElem? hn)
  have hM := met_of (hE l C.2.1 D cy H.size) (fun E st t hX => by obtain ⟨x, S1, -, hR, -⟩ := hX; exact kx x S1 hR)
  have hcn : va_CN R s args (mY M).cls idx (mY M') "Claimclub" (mB M') (mL M') (mT M') (cwM M' :: UW) (rmM M') (mC M') (mS M') as.length := ⟨⟨rfl, rfl, by rw [C.2.2.2.2.2.1.1]; exact hr1, by rw [C.2.2.2.2.2.1.2]; show 8 + (mL M' + 11) + mLo M' ≤ _; omega, C.words ok, by rw [cw_hs hh]; exact List.mem_cons_self⟩, C.1.2.2.2.2 _ (mok_hs ok hh), C.1.2.2.2.2 _ ok.2.2.1, ok.2.2.2.1, mok_len ok hlen, C.1.2.2.2.2 _ w1⟩
  have hrun := va_runSN (p := p) (l := l) (e := e) (R := R) (s := s) (m := m) (args := args) (below := below) (meth := meth) (c := c) (H := H) (rest := st) (g := F0 m pc ls (as.reverse ++ st)) C.1 hM ⟨hcn, C.1.2.2.2.2 _ w2, trivial⟩ (C.pre hW hA hS as) rfl rfl hl.1 rfl (lv_room hcat) hd (cells := cells) (slots := slots) (locs := locs) ⟨by omega, by omega⟩
  exact run_go C (fun T hT X => Or.inl (hrun T hT X)) hA hS hl hc hs hb1 hb2 kk (fun x S1 hx => absurd hx (kx x S1))
def rl_cw (E : Ek) (tm : Nat × Nat) (M : MT) (Q : Out → Sto → Prop) (P : Wt) : Prop := ∀ (pc : Nat) (lo : Lv) (st : List Value) (bc bs : Nat) (S : Sto), ∀ (n idx : Nat) (M' : MT) (as : List Value) (Rq : Out → Sto → Prop), decode (mB M) pc = .ok (.invokestatic idx, 3) → lkW[n]? = some ((mY M).cls, idx, M') → as.length = mP M' → mFr M' + 1 ≤ mFr M → 19 + mL M' + mLo M' ≤ mLo M → mC M' ≤ bc → mS M' ≤ bs → (st.map fun v => v.category).sum ≤ 8 → E M' as S Rq → (∀ r S1, Rq (.inl r) S1 → P (pc + 3) lo (r.toList ++ st) (bc - mC M') (bs - mS M') S1) → (∀ x S1, ¬ Rq (.inr x) S1) → P pc lo (as.reverse ++ st) bc bs S
theorem sn_cw (C : Wk p l e R s m args below meth c D cy tm M S0 Q QF) : rl_cw (Kt tm) tm M Q (Pw p l e R s m args below meth c D cy M S0 QF) := by
  intro pc lo st bc bs S
  intro n idx M' as Rq hd hn hlen hr1 hr2 hb1 hb2 hcat hE kk kx H locs cells slots ls hW hA hS hl hc hs
  obtain ⟨ok, hh, w1, w2⟩ := lkW_ok _ (List.mem_of_getElem? hn)
  have hcw : vx_CSW R s args (mY M).cls idx (mY M') (mB M') (mL M') (mT M') (mH M') (cwM M' :: UW) (rmM M') (mC M') (mS M') as.length := ⟨⟨rfl, rfl, by rw [C.2.2.2.2.2.1.1]; exact hr1, by rw [C.2.2.2.2.2.1.2]; show 8 + (mL M' + 11) + mLo M' ≤ _; omega, C.words ok, by rw [cw_hx hh]; exact List.mem_cons_self⟩, C.1.2.2.2.2 _ (mok_hx ok hh), C.1.2.2.2.2 _ ok.2.2.1, ok.2.2.2.1, mok_len ok hlen, C.1.2.2.2.2 _ w1, C.1.2.2.2.2 _ w2⟩
  exact run_go C (vx_runSX C.1 (hE l C.2.1 D cy H.size) hcw (C.pre hW hA hS as) rfl rfl hl.1 rfl (lv_room hcat) hd ⟨by omega, by omega⟩) hA hS hl hc hs hb1 hb2 kk (fun x S1 hx => absurd hx (kx x S1))
def rl_co (E : Ek) (tm : Nat × Nat) (M : MT) (Q : Out → Sto → Prop) (P : Wt) : Prop := ∀ (pc : Nat) (lo : Lv) (st : List Value) (bc bs : Nat) (S : Sto), ∀ (n idx b : Nat), decode (mB M) pc = .ok (.invokespecial idx, 3) → lkO[n]? = some ((mY M).cls, idx) → 1 ≤ mFr M → 20 ≤ mLo M → (st.map fun v => v.category).sum ≤ 8 → P (pc + 3) lo st bc bs S → P pc lo (.ref b :: st) bc bs S
theorem sn_co (C : Wk p l e R s m args below meth c D cy tm M S0 Q QF) : rl_co (Kt tm) tm M Q (Pw p l e R s m args below meth c D cy M S0 QF) := by
  intro pc lo st bc bs S
  intro n idx b hd hn hr1 hr2 hcat kk H locs cells slots ls hW hA hS hl hc hs
  have w1 := lkO_ok _ (List.mem_of_getElem? hn)
  exact W.objInit C.1.1 C.1.2.1 C.1.2.2.2.1 (C.1.2.2.2.2 _ w1) (C.1.2.2.2.2 _ oiI) (C.1.2.2.2.2 _ oiC) (g := F0 m pc ls (.ref b :: st)) rfl (by rw [C.1.2.2.1]; exact hl.1) rfl hd (by rw [C.2.2.2.2.2.1.1]; exact hr1) (by rw [C.2.2.2.2.2.1.2]; show 2 * 0 + _ + 12 ≤ _; omega) (kk H locs cells slots ls hW hA hS hl hc hs)
def rl_cast (E : Ek) (tm : Nat × Nat) (M : MT) (Q : Out → Sto → Prop) (P : Wt) : Prop := ∀ (pc : Nat) (lo : Lv) (st : List Value) (bc bs : Nat) (S : Sto), ∀ (n idx a ci : Nat), decode (mB M) pc = .ok (.checkcast idx, 3) → lkC[n]? = some ((mY M).cls, idx, ci) → sK S a = ci → P (pc + 3) lo (.ref a :: st) bc bs S → P pc lo (.ref a :: st) bc bs S
theorem sn_cast (C : Wk p l e R s m args below meth c D cy tm M S0 Q QF) : rl_cast (Kt tm) tm M Q (Pw p l e R s m args below meth c D cy M S0 QF) := by
  intro pc lo st bc bs S
  intro n idx a ci hd hn hk kk H locs cells slots ls hW hA hS hl hc hs
  have hq := lkC_ok _ (List.mem_of_getElem? hn)
  dsimp only [okCl] at hq
  obtain ⟨r, hr, hw⟩ := hq
  have h6 := vwCl_at hr
  have hP := hW.one (a := a) (by omega)
  rw [ent_obj hk h6] at hP
  exact va_castS C.1.1 C.1.2.1 C.1.2.2.2.1 (C.1.2.2.2.2 _ hw) (C.2.2.1.1 ci r hr).2 (va_recv C.2.2.1 hP (ci := ci) (q0 := 0) hr rfl) hd (kk H locs cells slots ls hW hA hS hl hc hs)
def rl_gets (E : Ek) (tm : Nat × Nat) (M : MT) (Q : Out → Sto → Prop) (P : Wt) : Prop := ∀ (pc : Nat) (lo : Lv) (st : List Value) (bc bs : Nat) (S : Sto), decode (mB M) pc = .ok (.getstatic 39, 3) → (mY M).cls = "java/util/ArrayList" → P (pc + 3) lo (.ref tm.1 :: st) bc bs S → P pc lo st bc bs S
theorem sn_gets (C : Wk p l e R s m args below meth c D cy tm M S0 Q QF) : rl_gets (Kt tm) tm M Q (Pw p l e R s m args below meth c D cy M S0 QF) := by
  intro pc lo st bc bs S
  intro hd ho kk H locs cells slots ls hW hA hS hl hc hs
  exact va_gets C.1.1 C.1.2.1 C.2.2.2.1.2.2.1 hS C.1.2.2.2.1 (C.1.2.2.2.2 _ (by rw [ho]; exact gsW)) (fun _ h => h) hd (kk H locs cells slots ls hW hA hS hl hc hs)
def rl_ldm (E : Ek) (tm : Nat × Nat) (M : MT) (Q : Out → Sto → Prop) (P : Wt) : Prop := ∀ (pc : Nat) (lo : Lv) (st : List Value) (bc bs : Nat) (S : Sto), decode (mB M) pc = .ok (.ldc 110, 2) → (mY M).cls = "java/util/Arrays" → P (pc + 2) lo (.ref tm.2 :: st) bc bs S → P pc lo st bc bs S
theorem sn_ldm (C : Wk p l e R s m args below meth c D cy tm M S0 Q QF) : rl_ldm (Kt tm) tm M Q (Pw p l e R s m args below meth c D cy M S0 QF) := by
  intro pc lo st bc bs S
  intro hd ho kk H locs cells slots ls hW hA hS hl hc hs
  exact va_ldcM C.1.1 C.1.2.1 C.1.2.2.2.1 (C.1.2.2.2.2 _ (by rw [ho]; exact lmW)) C.2.2.2.1.2.2.2.1 hd (kk H locs cells slots ls hW hA hS hl hc hs)
def rl_getc (E : Ek) (tm : Nat × Nat) (M : MT) (Q : Out → Sto → Prop) (P : Wt) : Prop := ∀ (pc : Nat) (lo : Lv) (st : List Value) (bc bs : Nat) (S : Sto), ∀ (a : Nat), decode (mB M) pc = .ok (.invokevirtual 86, 3) → (mY M).cls = "java/util/Arrays" → sK S a = 9 → 1 ≤ mFr M → 22 ≤ mLo M → (st.map fun v => v.category).sum ≤ 8 → P (pc + 3) lo (.ref tm.2 :: st) bc bs S → P pc lo (.ref a :: st) bc bs S
theorem sn_getc (C : Wk p l e R s m args below meth c D cy tm M S0 Q QF) : rl_getc (Kt tm) tm M Q (Pw p l e R s m args below meth c D cy M S0 QF) := by
  intro pc lo st bc bs S
  intro a hd ho hk hr1 hr2 hcat kk H locs cells slots ls hW hA hS hl hc hs
  have hP := hW.one (a := a) (by omega)
  rw [ent_q hk] at hP
  have hcell : H[a]? = some (vp_cell (cy 3) (sN S a, .inr (.inr (.inr (.inr (sR S a)))))) := hP 0 _ rfl
  obtain ⟨kA, comp, -, -, -, r4⟩ := (C.2.2.1.2 3 _ rfl).2
  exact va_getC C.1.1 C.1.2.1 (by rw [C.1.2.2.1]; exact hl.1.symm) C.1.2.2.2.1 (C.1.2.2.2.2 _ (by rw [ho]; exact gc1)) (C.1.2.2.2.2 _ gc2) (C.1.2.2.2.2 _ gc3) (C.1.2.2.2.2 _ gc4) (C.1.2.2.2.2 _ gc5) C.2.2.2.1.2.2.2.1 ⟨_, hcell, rfl, r4⟩ (by rw [C.2.2.2.2.2.1.1]; exact hr1) (by rw [C.2.2.2.2.2.1.2]; have := hcat; omega) hd (kk H locs cells slots ls hW hA hS hl hc hs)
def rl_acpy (E : Ek) (tm : Nat × Nat) (M : MT) (Q : Out → Sto → Prop) (P : Wt) : Prop := ∀ (pc : Nat) (lo : Lv) (st : List Value) (bc bs : Nat) (S : Sto), ∀ (a a0 ci : Nat) (sp dp n : Int32), decode (mB M) pc = .ok (.invokestatic 150, 3) → (mY M).cls = "java/util/Arrays" → sK S a = 9 → sK S a0 = 9 → 1 ≤ ci → ci ≤ 3 → ¬ sp < 0 → ¬ dp < 0 → ¬ n < 0 → sp.toNatClampNeg + n.toNatClampNeg ≤ sN S a0 → dp.toNatClampNeg + n.toNatClampNeg ≤ sN S a → (∀ i : Nat, i < n.toNatClampNeg → ∀ y : Nat, sR S a0 (sp.toNatClampNeg + i) = some y → sK S y = ci) → 1 ≤ mFr M → 8 + (nativeFrameWords "java/lang/System" "arraycopy" 5 + 11) ≤ mLo M → (st.map fun v => v.category).sum ≤ 8 → P (pc + 3) lo st bc bs (uRr S a (va_cpy (sR S a0) (sR S a) sp.toNatClampNeg dp.toNatClampNeg n.toNatClampNeg)) → P pc lo (.int n :: .int dp :: .ref a :: .int sp :: .ref a0 :: st) bc bs S
theorem sn_acpy (C : Wk p l e R s m args below meth c D cy tm M S0 Q QF) : rl_acpy (Kt tm) tm M Q (Pw p l e R s m args below meth c D cy M S0 QF) := by
  intro pc lo st bc bs S
  intro a a0 ci sp dp n hd ho hk hk0 h1 h3 z1 z2 z3 z4 z5 hel hr1 hr2 hcat kk H locs cells slots ls hW hA hS hl hc hs
  obtain ⟨r, hr⟩ := vwCl_get (ci := ci) (by omega)
  obtain ⟨j0, hj0⟩ := plW_at (cy := cy) (hW.lt (a := a0) (by omega)) (show sK S a0 ≤ 11 by omega)
  have h11 : sK S a ≤ 11 := by omega
  obtain ⟨j, hj⟩ := plW_at (cy := cy) (hW.lt (a := a) (by omega)) h11
  have hj' := hj
  have hj0' := hj0
  rw [ent_q hk] at hj'
  rw [ent_q hk0] at hj0'
  have e1 : ent cy (uRr S a (va_cpy (sR S a0) (sR S a) sp.toNatClampNeg dp.toNatClampNeg n.toNatClampNeg)) a = .inl (cy 3, sN S a, .inr (.inr (.inr (.inr (va_cpy (sR S a0) (sR S a) sp.toNatClampNeg dp.toNatClampNeg n.toNatClampNeg))))) := (ent_q (S := uRr S a _) hk).trans (congrArg (fun z => (Sum.inl (cy 3, sN S a, .inr (.inr (.inr (.inr z)))) : va_E)) upr_self)
  refine va_copyq (D := D) (cl := vwCl) (E0 := "java/lang/Object") (E1 := "java/lang/Object") (C := r.1) C.1.1 C.1.2.1 (by rw [C.1.2.2.1]; exact hl.1.symm) C.1.2.2.2.1 (C.1.2.2.2.2 _ (by rw [ho]; exact ac1)) (C.1.2.2.2.2 _ ac2) (C.1.2.2.2.2 _ ac3) (C.1.2.2.2.2 _ ac4) C.2.2.1 hW.P (hW.D hA) hS j0 j 3 3 hj0' hj' rfl rfl z1 z2 z3 z4 z5 (fun i hi y hy => ?_) (fun comp c0 f1 f2 => ?_) (by rw [C.2.2.2.2.2.1.1]; exact hr1) (by rw [C.2.2.2.2.2.1.2]; have := hcat; omega) hd (fun H1 locs1 hP1 _ hS1 => ?_)
  · have hky := hel i hi y hy
    have hP := hW.one (a := y) (by omega)
    rw [ent_obj hky (by omega)] at hP
    exact va_recv C.2.2.1 hP (ci := ci) (q0 := 0) hr rfl
  · obtain ⟨c1, t1, g1, g2, g3⟩ := Cond.castable_spec (C.1.2.2.2.2 _ (cast_at hr h1 h3))
    cases f1.symm.trans g2
    cases f2.symm.trans g1
    exact g3
  · rw [← e1] at hP1
    exact kk H1 locs1 cells slots ls (WS.put C.2.2.2.2.1 hW hA hS hS1 h11 hj rfl rfl (fun b hb => rfl) (fun b hb => rfl) (fun b hb => upr_ne hb) hP1) (hA.tr (Af.alike rfl) (Nat.le_refl _)) hS1 hl hc hs
def rl_catch (E : Ek) (tm : Nat × Nat) (M : MT) (Q : Out → Sto → Prop) (P : Wt) : Prop := ∀ (pc : Nat) (lo : Lv) (st : List Value) (bc bs : Nat) (S : Sto), ∀ (n idx b h hn j : Nat) (M' : MT) (as : List Value) (x : Nat) (Rq : Out → Sto → Prop) (pre suf : List (Nat × Nat × Nat × Nat)) (sp ep ct : Nat), decode (mB M) pc = .ok (.invokevirtual idx, 3) → lkV[n]? = some ((mY M).cls, idx, M') → (sK S b < 6 ∧ (vwCl[sK S b]?).map (fun r => r.1) = some (mY M').cls) → as.length = mP M' → mFr M' + 1 ≤ mFr M → 19 + mL M' + mLo M' ≤ mLo M → mC M' ≤ bc → mS M' ≤ bs → (st.map fun v => v.category).sum ≤ 8 → E M' (.ref b :: as) S Rq → (∀ r S1, ¬ Rq (.inl r) S1) → (∀ x' S1', Rq (.inr x') S1' → x' = x) → mH M = pre ++ (sp, ep, h, ct) :: suf → sp ≤ pc → pc < ep → ct ≠ 0 → Cond.classLink (mY M).cls ct (exN x) ∈ UW → Cond.castable (exN x) (exN x) ∈ UW → (∀ z ∈ pre, z.2.2.2 ≠ 0 ∧ ∃ y, y ≠ x ∧ 1 ≤ y ∧ y ≤ 3 ∧ y = 2 ∧ Cond.classLink (mY M).cls z.2.2.2 (exN y) ∈ UW) → 1 ≤ x → x ≤ 3 → ((∃ q : Fin 4, decode (mB M) h = .ok (.astore_n q, 1) ∧ (q : Nat) = j ∧ hn = h + 1) ∨ (decode (mB M) h = .ok (.astore j, 2) ∧ hn = h + 2)) → j < mL M → (∀ S1, Rq (.inr x) S1 → P hn [] [] (bc - mC M') (bs - mS M') S1) → P pc lo (as.reverse ++ .ref b :: st) bc bs S
theorem sn_catch (C : Wk p l e R s m args below meth c D cy tm M S0 Q QF) : rl_catch (Kt tm) tm M Q (Pw p l e R s m args below meth c D cy M S0 QF) := by
  intro pc lo st bc bs S
  intro n idx b h hn j M' as x Rq pre suf sp ep ct hd hnk hk hlen hr1 hr2 hb1 hb2 hcat hE hno hx hH hp1 hp2 hct hcl hcs hpre hx1 hx3 hdh hjL kk H locs cells slots ls hW hA hS hl hc hs
  obtain ⟨ok, hh, w1, w2, w3⟩ := lkV_ok _ (List.mem_of_getElem? hnk)
  have hP := hW.one (a := b) (by omega)
  rw [ent_obj rfl hk.1] at hP
  obtain ⟨r, hr, hrc⟩ : ∃ r, vwCl[sK S b]? = some r ∧ r.1 = (mY M').cls := by
    cases hz : vwCl[sK S b]? with
    | none => rw [hz] at hk; cases hk.2
    | some r => rw [hz] at hk; exact ⟨r, rfl, Option.some.inj hk.2⟩
  have hrec := va_recv C.2.2.1 hP (ci := sK S b) (q0 := 0) hr rfl
  rw [hrc] at hrec
  have hpr := C.pre hW hA hS (.ref b :: as)
  refine run_go C (vx_runV C.1 (hE l C.2.1 D cy H.size) ⟨C.callB ok hh hr1 hr2 hlen w1, C.1.2.2.2.2 _ w2, C.1.2.2.2.2 _ w3⟩ ⟨hpr.1, hrec, hpr.2⟩ rfl rfl hl.1 rfl (lv_room hcat) hd ⟨by omega, by omega⟩) hA hS hl hc hs hb1 hb2 (fun r S1 h => absurd h (hno r S1)) ?_
  intro x' S1' hR q ce H1 locs1 f1 f2 f3 g1 g2 g3
  obtain rfl := hx x' S1' hR
  have hkk : ∀ (ls' : Array Slot) (lo' : Lv), lv_has ls' (mL M) lo' → W p l e R s m args below meth c H1 locs1 (cells + mC M') (slots + mS M') QF (F0 m hn ls' []) := fun ls' lo' hl' => kk S1' hR H1 locs1 (cells + mC M') (slots + mS M') ls' f1 f2 f3 ⟨hl'.1, hl'.2.1, fun _ hz => absurd hz List.not_mem_nil⟩ (by omega) (by omega)
  refine vx_catch (own := (mY M).cls) (name := exN x') C.1.2.2.2.1 (tableOf pre) { startPc := sp, endPc := ep, handlerPc := h, catchType := ct } (tableOf suf) ?_ ?_ ?_ hct (C.1.2.2.2.2 _ hcl) (C.1.2.2.2.2 _ hcs) g1 g2 g3 ?_
  · rw [C.2.2.2.2.2.2.2.2.1 (by rw [hH]; simp), hH]
    simp [tableOf]
  · intro z hz
    obtain ⟨w, hw, rfl⟩ := List.mem_map.mp hz
    obtain ⟨h0, y, hy, hy1, hy3, hy2, hyl⟩ := hpre w hw
    exact Or.inr ⟨h0, exN y, C.1.2.2.2.2 _ hyl, C.2.2.2.1.2.2.2.2.2 x' y hx1 hx3 hy1 hy3 (Ne.symm hy) hy2⟩
  · show (decide (sp ≤ pc) && decide (pc < ep)) = true
    rw [decide_eq_true hp1, decide_eq_true hp2]
    rfl
  · rcases hdh with ⟨q4, d1, d2, d3⟩ | ⟨d1, d3⟩
    · subst d3
      exact lv_astore_n C.1.1 C.1.2.1 d1 d2 hl hjL rfl (fun ls' hl' => hkk ls' _ hl')
    · subst d3
      exact lv_astore C.1.1 C.1.2.1 d1 hl hjL rfl (fun ls' hl' => hkk ls' _ hl')
end Calls
