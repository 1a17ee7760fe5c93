/-! THE CLAIM OUT OF ONE WALK OF THE LAW'S BODY. Your part is whole_start (and what it stands on); all else here is the same for every law, but numbers. -/
def R_law : String := "ClaimclubLaw"
def lw_P (b : Addr) (xs : List Int32) (args : Array Value) (s : State) : Prop := args = #[.ref b] ∧ s.IntsAt b xs ∧ xs.length ≤ 260 ∧ (Jvm.Cond.and given_1 narrow_1).before args s = true
def lw_Q (_ : Array Value) (s : State) (o : Outcome) (t : State) : Prop := o = .returned (some (.int 1)) ∧ Framed s o t [] 600056 7301712
def lw_Z (below : List Frame) (a : Array Value) (s : State) : State → Prop := fun t => ∃ o, t.status = .running ∧ Ended t below o ∧ lw_Q a s o t
/-- the law's own end, with 1 on the stack, nothing written that was there before, its room as the claim has it -/
theorem lw_ret {p : Program} {l : Launch} {e : Env} {s : State} {m : MethodId} {below : List Frame} {meth : Method} {c : Code} {b : Nat} (hx : p.tables.exec = Jvm.exec) (hb : c.code = code) (hr : meth.sig.returnType = ret) (hlocks : meth.locks = false) {pc : Nat} {H : Heap} {ls : Array Slot} (hdg : decode code pc = .ok (.ireturn, 1)) : W p l e room_1 s m #[Value.ref b] below meth c H [] 600056 7301712 (lw_Z below #[Value.ref b] s) (F0 m pc ls [.int 1]) := by
  intro T hT X
  obtain ⟨fs, hret, hrun, hended, hW, hframe⟩ := X.leave (v := some (.int 1)) (hlocks := hlocks) (fun h => by rw [hr] at h; cases h)
  have hmeth' : T.vm.method? m = some meth := X.method'
  refine ⟨T.setFrames fs, ?_, .returned (some (.int 1)), hrun, hended, rfl, ⟨_, rfl⟩, hW, hframe⟩
  jvm_step X.here [X.here.top, hx, hb, hdg, hmeth', hr, ret, narrow_b1]
  (try refine ⟨rfl, ?_⟩); (try refine ⟨rfl, ?_⟩)
  first | (intro acts; rw [hret _ acts rfl rfl rfl]) | rw [hret _ _ rfl rfl rfl]
  exact Steps.refl _
/-- what holds at the law's entry: the machine, the code, the tables' words (any of lw_tbl by 'hts w (by decide +kernel)'), the script of L ints xs at the cell b, what the Statement gives of the start (any of its parts by flat_of_before) -/
def lw_At (p : Program) (s : State) (m : MethodId) (meth : Method) (c : Code) (b L : Nat) (xs : Nat → Int32) : Prop :=
  p.tables.exec = Jvm.exec ∧ c.code = code ∧ meth.sig.returnType = ret ∧ c.maxLocals = 7 ∧ s.vm.findClass R_law = some m.cls ∧ (∀ w ∈ lw_tbl, w.before #[Value.ref b] s = true) ∧ va_X b L xs s s.heap ∧ b < s.heap.size ∧ meth.locks = false ∧ (Jvm.Cond.and given_1 narrow_1).before #[Value.ref b] s = true
set_option maxRecDepth 20000 in
theorem sl_U : Cond.laysStatic Bundle.tN "UNASSIGNED_STACK" Bundle.steD ∈ lw_tbl := List.mem_of_getElem? (i := 199) rfl
set_option maxRecDepth 20000 in
theorem sl_N : Cond.laysStatic Bundle.tN "SUPPRESSED_SENTINEL" Bundle.listD ∈ lw_tbl := List.mem_of_getElem? (i := 201) rfl
set_option maxRecDepth 20000 in
theorem sl_E : Cond.laysStatic "java/util/ArrayList" "DEFAULTCAPACITY_EMPTY_ELEMENTDATA" "[Ljava/lang/Object;" ∈ lw_tbl := List.mem_of_getElem? (i := 70) rfl
set_option maxRecDepth 20000 in
theorem in_T : Cond.initialized Bundle.tN ∈ lw_tbl := List.mem_of_getElem? (i := 36) rfl
set_option maxRecDepth 20000 in
theorem in_A : Cond.initialized "java/util/ArrayList" ∈ lw_tbl := List.mem_of_getElem? (i := 33) rfl
set_option maxRecDepth 20000 in
theorem sr_383 : Cond.stringRef "Claimclub" 383 "an argument is out of range" ∈ lw_tbl := List.mem_of_getElem? (i := 213) rfl
set_option maxRecDepth 20000 in
theorem sr_379 : Cond.stringRef "Claimclub" 379 "there would be more claims than there may be" ∈ lw_tbl := List.mem_of_getElem? (i := 310) rfl
set_option maxRecDepth 20000 in
theorem sr_373 : Cond.stringRef "Claimclub" 373 "there is no such claim" ∈ lw_tbl := List.mem_of_getElem? (i := 469) rfl
set_option maxRecDepth 20000 in
theorem sr_95 : Cond.stringRef "Claimclub" 95 "the claim is not open, or the purse has less" ∈ lw_tbl := List.mem_of_getElem? (i := 485) rfl
set_option maxRecDepth 20000 in
theorem sr_107 : Cond.stringRef "Claimclub" 107 "the claim is not hidden" ∈ lw_tbl := List.mem_of_getElem? (i := 494) rfl
set_option maxRecDepth 20000 in
theorem sr_381 : Cond.stringRef "Claimclub" 381 "there is no such kind" ∈ lw_tbl := List.mem_of_getElem? (i := 508) rfl
set_option maxRecDepth 20000 in
theorem sr_121 : Cond.stringRef "Claimclub" 121 "the year would be above the last one" ∈ lw_tbl := List.mem_of_getElem? (i := 692) rfl
set_option maxRecDepth 20000 in
theorem sr_200 : Cond.stringRef "Claimclub" 200 "there are as many offers as there may be" ∈ lw_tbl := List.mem_of_getElem? (i := 526) rfl
set_option maxRecDepth 20000 in
theorem sr_375 : Cond.stringRef "Claimclub" 375 "there is no such offer" ∈ lw_tbl := List.mem_of_getElem? (i := 556) rfl
set_option maxRecDepth 20000 in
theorem sr_210 : Cond.stringRef "Claimclub" 210 "the claim is a bond, or not open" ∈ lw_tbl := List.mem_of_getElem? (i := 557) rfl
set_option maxRecDepth 20000 in
theorem sr_247 : Cond.stringRef "Claimclub" 247 "the claim is no bond, is the state's own, or is not open" ∈ lw_tbl := List.mem_of_getElem? (i := 754) rfl
set_option maxRecDepth 20000 in
theorem sr_292 : Cond.stringRef "Claimclub" 292 "there are as many things as there may be" ∈ lw_tbl := List.mem_of_getElem? (i := 631) rfl
set_option maxRecDepth 20000 in
theorem sr_298 : Cond.stringRef "Claimclub" 298 "the claim is not open, has no arrears, or sued" ∈ lw_tbl := List.mem_of_getElem? (i := 767) rfl
set_option maxRecDepth 20000 in
theorem sr_377 : Cond.stringRef "Claimclub" 377 "there is no such thing" ∈ lw_tbl := List.mem_of_getElem? (i := 782) rfl
set_option maxRecDepth 20000 in
theorem sr_307 : Cond.stringRef "Claimclub" 307 "the claim is not open, or not judged, or the thing was seized" ∈ lw_tbl := List.mem_of_getElem? (i := 783) rfl
set_option maxRecDepth 20000 in
theorem sr_313 : Cond.stringRef "Claimclub" 313 "there is no such lender" ∈ lw_tbl := List.mem_of_getElem? (i := 792) rfl
set_option maxRecDepth 20000 in
theorem sr_316 : Cond.stringRef "Claimclub" 316 "there is no programme, or all of its reviews were done" ∈ lw_tbl := List.mem_of_getElem? (i := 651) rfl
set_option maxRecDepth 20000 in
theorem sr_347 : Cond.stringRef "Claimclub" 347 "there is no such series" ∈ lw_tbl := List.mem_of_getElem? (i := 677) rfl
set_option maxRecDepth 20000 in
theorem sr_365 : Cond.stringRef "Claimclub" 365 "nothing of a claim is told by that number" ∈ lw_tbl := List.mem_of_getElem? (i := 476) rfl
set_option maxRecDepth 20000 in
theorem sr_371 : Cond.stringRef "Claimclub" 371 "nothing of the state is told by that number" ∈ lw_tbl := List.mem_of_getElem? (i := 277) rfl
theorem sr_all : ∀ q ∈ strL, Cond.stringRef "Claimclub" q.1 q.2 ∈ lw_tbl := List.forall_mem_cons.mpr ⟨sr_383, List.forall_mem_cons.mpr ⟨sr_379, List.forall_mem_cons.mpr ⟨sr_373, List.forall_mem_cons.mpr ⟨sr_95, List.forall_mem_cons.mpr ⟨sr_107, List.forall_mem_cons.mpr ⟨sr_381, List.forall_mem_cons.mpr ⟨sr_121, List.forall_mem_cons.mpr ⟨sr_200, List.forall_mem_cons.mpr ⟨sr_375, List.forall_mem_cons.mpr ⟨sr_210, List.forall_mem_cons.mpr ⟨sr_247, List.forall_mem_cons.mpr ⟨sr_292, List.forall_mem_cons.mpr ⟨sr_298, List.forall_mem_cons.mpr ⟨sr_377, List.forall_mem_cons.mpr ⟨sr_307, List.forall_mem_cons.mpr ⟨sr_313, List.forall_mem_cons.mpr ⟨sr_316, List.forall_mem_cons.mpr ⟨sr_347, List.forall_mem_cons.mpr ⟨sr_365, List.forall_mem_cons.mpr ⟨sr_371, fun _ h => absurd h List.not_mem_nil⟩⟩⟩⟩⟩⟩⟩⟩⟩⟩⟩⟩⟩⟩⟩⟩⟩⟩⟩⟩
abbrev gvn : List Cond := flatC (Jvm.Cond.and given_1 narrow_1)
abbrev tmE : Term := .static "java/util/ArrayList" "DEFAULTCAPACITY_EMPTY_ELEMENTDATA" "[Ljava/lang/Object;"
theorem gv_U : Cond.isRef (.static Bundle.tN "UNASSIGNED_STACK" Bundle.steD) ∈ gvn := by decide +kernel
theorem gv_N : Cond.isRef (.static Bundle.tN "SUPPRESSED_SENTINEL" Bundle.listD) ∈ gvn := by decide +kernel
theorem gv_A : Cond.arrayOf tmE (.object "java/lang/Object") ∈ gvn := by decide +kernel
theorem gv_L : Cond.eq (.length tmE) (.int 0) ∈ gvn := by decide +kernel
theorem gv_M : Cond.isRef (.mirror "[Ljava/lang/Object;") ∈ gvn := by decide +kernel
theorem gv_12 : Cond.not (.castable (exN 1) (exN 2)) ∈ gvn := by decide +kernel
theorem gv_32 : Cond.not (.castable (exN 3) (exN 2)) ∈ gvn := by decide +kernel
/-- the store at the law's entry: the script, the empty row -/
def S0 (b a L : Nat) (xs : Nat → Int32) : Sto := (fun q => if q = b then xs else fun _ => 0, fun _ _ => 0, fun _ _ => none, fun q => if q = b then 12 else if q = a then 13 else 99, fun q => if q = b then L else 0)
theorem S0_k {b a L : Nat} {xs : Nat → Int32} (q : Nat) : sK (S0 b a L xs) q = 12 ∨ sK (S0 b a L xs) q = 13 ∨ sK (S0 b a L xs) q = 99 := by
  show (if q = b then 12 else if q = a then 13 else 99) = 12 ∨ (if q = b then 12 else if q = a then 13 else 99) = 13 ∨ (if q = b then 12 else if q = a then 13 else 99) = 99
  by_cases e : q = b
  · rw [if_pos e]; exact Or.inl rfl
  · rw [if_neg e]
    by_cases e2 : q = a
    · rw [if_pos e2]; exact Or.inr (Or.inl rfl)
    · rw [if_neg e2]; exact Or.inr (Or.inr rfl)
theorem S0_own {b a L sz : Nat} {xs : Nat → Int32} {q : Nat} (h : cA (S0 b a L xs) sz q) : sz ≤ q := by
  rcases h with h | h
  · rcases S0_k (b := b) (a := a) (L := L) (xs := xs) q with e | e | e <;> rw [e] at h <;> omega
  · exact h
theorem st_empty {args : Array Value} {s : State} (h1 : (Cond.eq (.length tmE) (.int 0)).before args s = true) (h2 : (Cond.arrayOf tmE (.object "java/lang/Object")).before args s = true) :
    ∃ (a : Nat) (cell : Cell), tmE.eval args s none [] s = some (.ref a) ∧ s.heap[a]? = some cell ∧ s.isArrayOf cell (.object "java/lang/Object") ∧ cell.slots.size = 0 := by
  cases hv : (Term.length tmE).eval args s none [] s with
  | none => simp [Cond.before, Cond.holds, Cond.value, hv] at h1
  | some v =>
    obtain ⟨a, cell, ht, harr, rfl⟩ := Term.length_spec hv
    obtain ⟨hcell, -, -, -⟩ := State.arrayAt?_spec harr
    have hsz : cell.slots.size < 2147483648 := by
      have hv2 := hv
      simp only [Term.eval, Option.bind_eq_bind] at hv2
      have ht2 := ht
      simp only [Term.eval, Option.bind_eq_bind] at ht2
      rw [ht2] at hv2
      simp only [Option.bind_some, harr] at hv2
      by_cases hlt : cell.slots.size < 2147483648
      · exact hlt
      · rw [if_neg hlt] at hv2; cases hv2
    have he := Cond.eq_ints (first := s) (o := none) (idx := []) hv (Term.int_eval (args := args) (first := s) (o := none) (idx := []) (s := s) 0)
    have hz : cell.slots.size.toInt32 = 0 := by
      simpa [Cond.before, Cond.holds, he] using h1
    have hz2 : nI cell.slots.size = nI 0 := hz
    exact ⟨a, cell, ht, hcell, (Cond.arrayOf_spec h2 ht hcell).1, (re_nIinj hsz (by decide)).mp hz2⟩
theorem st_arr {args : Array Value} {s : State} {ty : FieldType} (hno : ∀ C, ty ≠ .object C) (h : (Cond.arrayClass ty).before args s = true) : ∃ c : ClassId, ArrOfT s c ty ∧ va_RA s c ty := by
  obtain ⟨c, k, comp, h1, h2, h3⟩ := Cond.arrayClass_spec h
  refine ⟨c, fun n z => ⟨fun k h => (by cases h), k, h2, comp, h3⟩, ?_⟩
  cases ty with
  | object C => exact absurd rfl (hno C)
  | _ => exact h1
theorem st_arrO {args : Array Value} {s : State} (h : (Cond.arrayOver (.object "java/lang/Object")).before args s = true) : ∃ c : ClassId, ArrOfT s c (.object "java/lang/Object") ∧ va_RA s c (.object "java/lang/Object") := by
  obtain ⟨comp, c, k, h1, h2, h3, h4, h5⟩ := Cond.arrayOver_spec h
  exact ⟨c, fun n z => ⟨fun k h => (by cases h), k, h3, comp, h4⟩, k, comp, h3, h4, h1, h5⟩
set_option maxHeartbeats 4000000 in
theorem whole_start {p : Program} {e : Env} {s : State} {m : MethodId} {below : List Frame} {meth : Method} {c : Code} (l : Launch) (hflags : l.flags = flags0) {b L : Nat} {xs : Nat → Int32} (hL : L ≤ 260) (C0 : lw_At p s m meth c b L xs) : W p l e room_1 s m #[Value.ref b] below meth c s.heap [] 0 0 (lw_Z below #[Value.ref b] s) (entryFrame m ([Value.ref b] : List Value).toArray 7) := by
  obtain ⟨hx, hb, hr, hml, hown, hts, hX, hbl, hlocks, hgv⟩ := C0
  have hg := flat_of_before _ hgv
  have hUW : ∀ w ∈ UW, w.before #[Value.ref b] s = true := fun w hw => hts w (List.mem_filter.mp hw).1
  obtain ⟨a, cell, ht, hcell, hof, hsz⟩ := st_empty (hg _ gv_L) (hg _ gv_A)
  have hab : ¬ a = b := by
    intro e
    obtain ⟨scr, x1, x2, -⟩ := hX
    rw [e] at hcell
    have e2 : scr = cell := Option.some.inj (x1.symm.trans hcell)
    rw [e2] at x2
    obtain ⟨-, k1, y1, c1, z1⟩ := x2
    obtain ⟨-, k2, y2, c2, z2⟩ := hof
    have e3 : k1 = k2 := Option.some.inj (y1.symm.trans y2)
    rw [e3, z2] at z1
    cases z1
  obtain ⟨mi, hMi⟩ := va_Mi.of (hg _ gv_M)
  obtain ⟨d0, i0, u0⟩ := u_known hUW ly_0 (hUW _ ins_0)
  obtain ⟨d1, i1, u1⟩ := u_known hUW ly_1 (hUW _ ins_1)
  obtain ⟨d2, i2, u2⟩ := u_known hUW ly_2 (hUW _ ins_2)
  obtain ⟨d3, i3, u3⟩ := u_known hUW ly_3 (hUW _ ins_3)
  obtain ⟨d4, i4, u4⟩ := u_known hUW ly_4 (hUW _ ins_4)
  obtain ⟨d5, i5, u5⟩ := u_known hUW ly_3 (hUW _ ins_3)
  obtain ⟨t0, r0⟩ := st_arr (ty := .int) (fun C h => by cases h) (hUW _ arrw_int)
  obtain ⟨t1, r1⟩ := st_arr (ty := .long) (fun C h => by cases h) (hUW _ arrw_long)
  obtain ⟨t2, r2⟩ := st_arr (ty := .int) (fun C h => by cases h) (hUW _ arrw_int)
  obtain ⟨t3, r3⟩ := st_arrO (hUW _ arrO)
  obtain ⟨D, hD⟩ : ∃ D : va_G, D = (fun k => if k = 0 then d0 else if k = 1 then d1 else if k = 2 then d2 else if k = 3 then d3 else if k = 4 then d4 else d5, fun k => if k = 0 then i0 else if k = 1 then i1 else if k = 2 then i2 else if k = 3 then i3 else if k = 4 then i4 else i5) := ⟨_, rfl⟩
  obtain ⟨cy, hcy⟩ : ∃ cy : Nat → ClassId, cy = fun k => if k = 0 then t0 else if k = 1 then t1 else if k = 2 then t2 else t3 := ⟨_, rfl⟩
  have hK : va_K D vwCl (tysOf cy) s := by
    rw [hD, hcy]
    refine ⟨fun k q hq => ?_, fun k q hq => ?_⟩
    · match k, hq with
      | 0, hq => cases hq; exact u0
      | 1, hq => cases hq; exact u1
      | 2, hq => cases hq; exact u2
      | 3, hq => cases hq; exact u3
      | 4, hq => cases hq; exact u4
      | 5, hq => cases hq; exact u5
      | k + 6, hq => cases hq
    · match k, hq with
      | 0, hq => cases hq; exact r0
      | 1, hq => cases hq; exact r1
      | 2, hq => cases hq; exact r2
      | 3, hq => cases hq; exact r3
      | k + 4, hq => cases hq
  have kb : sK (S0 b a L xs) b = 12 := if_pos rfl
  have ka : sK (S0 b a L xs) a = 13 := (if_neg hab).trans (if_pos rfl)
  have nb : sN (S0 b a L xs) b = L := if_pos rfl
  have na : sN (S0 b a L xs) a = 0 := if_neg hab
  have ib : sI (S0 b a L xs) b = xs := if_pos rfl
  have hWS : WS D cy s (S0 b a L xs) s.heap := by
    intro q
    refine ⟨fun h => ?_, fun h => ?_, fun h => ?_, fun h => ?_⟩
    · rcases S0_k (b := b) (a := a) (L := L) (xs := xs) q with e | e | e <;> rw [e] at h <;> omega
    · by_cases e : q = b
      · rw [e, nb, ib]; exact hX
      · have : sK (S0 b a L xs) q = if q = a then 13 else 99 := if_neg e
        rw [this] at h
        split at h <;> omega
    · by_cases e : q = b
      · rw [e, kb] at h; omega
      · have e1 : sK (S0 b a L xs) q = if q = a then 13 else 99 := if_neg e
        by_cases e2 : q = a
        · rw [e2]; exact ⟨cell, hcell, hof, hsz⟩
        · rw [e1, if_neg e2] at h; omega
    · rcases S0_k (b := b) (a := a) (L := L) (xs := xs) q with e | e | e
      · rw [e] at h; omega
      · rw [e] at h; omega
      · exact e
  have hA : ∀ q : Nat, q < s.heap.size → ¬ cA (S0 b a L xs) s.heap.size q := fun q hq h => by
    have := S0_own h; omega
  have hZ : Zs (cA (S0 b a L xs) s.heap.size) (a, mi) s s.heap := by
    refine ⟨vx_Zqof (hts _ sl_U) (hts _ in_T) (hg _ gv_U) hA, vx_Zqof (hts _ sl_N) (hts _ in_T) (hg _ gv_N) hA, va_Zref (hts _ sl_E) (hts _ in_A) ht hA, hMi, fun q hq => ?_, ?_⟩
    · have h1 := hts _ (sr_all q hq)
      obtain ⟨k, cf, i, ad, -, -, -, -, -, hev⟩ := Cond.stringRef_spec u4.2.1 h1
      exact ⟨ad, vk_R.of h1 hev⟩
    · intro x y hx1 hx3 hy1 hy3 hxy hy2
      have hc : (x = 1 ∧ y = 2) ∨ (x = 3 ∧ y = 2) := by omega
      rcases hc with ⟨rfl, rfl⟩ | ⟨rfl, rfl⟩
      · exact va_Nc.of (hg _ gv_12)
      · exact va_Nc.of (hg _ gv_32)
  have C : Wk p l e room_1 s m #[Value.ref b] below meth c D cy (a, mi) M_L_law (S0 b a L xs) QL (lw_Z below #[Value.ref b] s) := by
    refine ⟨⟨hx, hb, hml, hown, hUW⟩, hflags, hK, hZ, hWS, ⟨rfl, rfl⟩, fun h => absurd h (by decide), ka, fun h => absurd rfl h, ?_, ?_, ?_⟩
    · intro v H locs cells slots S1 pc ls hQ hW hA1 hS hc hs hd
      have hv : v = some (.int 1) := Sum.inl.inj hQ
      subst hv
      obtain ⟨hd1, ty, hty, hn⟩ := hd
      refine va_forget (fun q hq => S0_own (hS.2.2 q hq)) ?_
      refine W.widen hc hs ?_
      exact lw_ret hx hb hr hlocks hd1
    · intro x q ce H locs cells slots S1 pc ls rest hQ
      cases hQ
    · intro x H locs cells slots S1 pc ls rest hQ
      cases hQ
  rw [lg_entry_eq]
  have h := Wp.mono (fun _ _ _ _ z => ev_sound z) (law_go (tm := (a, mi)) kb nb ib hL ka na)
  exact Wp.go C h s.heap [] 0 0 _ hWS Af.rf va_S.rf (lv_entry [.ref b] (Nat.le_of_ble_eq_true rfl)) (Nat.le_of_eq (Nat.zero_add _)) (Nat.le_of_eq (Nat.zero_add _))
