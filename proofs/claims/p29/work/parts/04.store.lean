/-! THE ABSTRACT MACHINE, 1: the store, and what of the heap it speaks of -/
def okw : Cond → Bool
  | .fieldLinkNest .. => true
  | .methodLinkNest .. => true
  | .castable .. => true
  | .declares .. => true
  | .arrayOver (.object _) => true
  | w => goodWord w
def UW : List Cond := lw_tbl.filter okw
theorem uw {i : Nat} {w : Cond} (h : lw_tbl[i]? = some w) (g : okw w = true) : w ∈ UW := List.mem_filter.mpr ⟨List.mem_of_getElem? h, g⟩
theorem okw_at {w : Cond} (g : okw w = true) {args a' : Array Value} {s U : State} (hW : s.WarmedH U.vm) (h : w.before args s = true) : w.before a' U = true := by
  by_cases hg : goodWord w = true
  · exact word_at hW (good_of_word hg) h
  · cases w with
    | fieldLinkNest a i b n d hh => exact va_Nw.use rfl (va_Nw.warmF hW (va_Nw.of rfl h))
    | methodLinkNest a i x hh => exact va_Nw.use rfl (va_Nw.warmM hW (va_Nw.of rfl h))
    | castable a b => exact va_Nw.use rfl (va_Nw.warmC hW (va_Nw.of rfl h))
    | declares x => exact va_Nw.use rfl (va_Nw.warmD hW (va_Nw.of rfl h))
    | arrayOver t =>
      cases t with
      | object C => exact va_AO.use (va_AO.moved hW.alike (va_AO.of h))
      | _ => exact absurd g hg
    | _ => exact absurd g hg
theorem UW_at {args : Array Value} {s : State} (hts : ∀ w ∈ UW, w.before args s = true) : ∀ w ∈ UW, ∀ (a' : Array Value) (U : State), s.WarmedH U.vm → w.before a' U = true := fun w hw a' U hW => okw_at (List.mem_filter.mp hw).2 hW (hts w hw)
abbrev vwCl : List vw_C := [(RJx4a65c, TJx4a65c, 3), (RX0, TX0, 18), (RX1, TX1, 4), (RX2, TX2, 2), (RX3, TX3, 14), (RX2, TX2, 2)]
/-- the store: ints, longs, references by address and place; the kind and the length of each address. Kinds: 0 to 5 objects of vwCl, 6 int[], 7 long[] (payments), 8 boolean[], 9 Object[], 10 long[] (the model's), 11 long[] (the law's), 12 the script, 13 the empty array, 99 nothing -/
abbrev Sto : Type := (Nat → Nat → Int32) × (Nat → Nat → Int64) × (Nat → Nat → Option Nat) × (Nat → Nat) × (Nat → Nat)
abbrev sI (S : Sto) : Nat → Nat → Int32 := S.1
abbrev sJ (S : Sto) : Nat → Nat → Int64 := S.2.1
abbrev sR (S : Sto) : Nat → Nat → Option Nat := S.2.2.1
abbrev sK (S : Sto) : Nat → Nat := S.2.2.2.1
abbrev sN (S : Sto) : Nat → Nat := S.2.2.2.2
def up2 {α : Type} (f : Nat → Nat → α) (a k : Nat) (v : α) : Nat → Nat → α := fun b => if b = a then (fun j => if j = k then v else f b j) else f b
def upr {α : Type} (f : Nat → Nat → α) (a : Nat) (r : Nat → α) : Nat → Nat → α := fun b => if b = a then r else f b
def up1 (f : Nat → Nat) (a : Nat) (r : Nat) : Nat → Nat := fun b => if b = a then r else f b
theorem up2_ne {α : Type} {f : Nat → Nat → α} {a b k : Nat} {v : α} (h : b ≠ a) : up2 f a k v b = f b := by simp [up2, h]
theorem up2_self {α : Type} {f : Nat → Nat → α} {a k : Nat} {v : α} : up2 f a k v a k = v := by simp [up2]
theorem up2_k {α : Type} {f : Nat → Nat → α} {a k j : Nat} {v : α} (h : j ≠ k) : up2 f a k v a j = f a j := by simp [up2, h]
theorem upr_ne {α : Type} {f : Nat → Nat → α} {a b : Nat} {r : Nat → α} (h : b ≠ a) : upr f a r b = f b := by simp [upr, h]
theorem upr_self {α : Type} {f : Nat → Nat → α} {a : Nat} {r : Nat → α} : upr f a r a = r := by simp [upr]
theorem up1_ne {f : Nat → Nat} {a b r : Nat} (h : b ≠ a) : up1 f a r b = f b := by simp [up1, h]
theorem up1_self {f : Nat → Nat} {a r : Nat} : up1 f a r a = r := by simp [up1]
abbrev uI (S : Sto) (a k : Nat) (v : Int32) : Sto := (up2 S.1 a k v, S.2)
abbrev uJ (S : Sto) (a k : Nat) (v : Int64) : Sto := (S.1, up2 S.2.1 a k v, S.2.2)
abbrev uR (S : Sto) (a k : Nat) (v : Option Nat) : Sto := (S.1, S.2.1, up2 S.2.2.1 a k v, S.2.2.2)
abbrev uRr (S : Sto) (a : Nat) (r : Nat → Option Nat) : Sto := (S.1, S.2.1, upr S.2.2.1 a r, S.2.2.2)
/-- a new cell at a -/
abbrev sal (S : Sto) (a kind n : Nat) : Sto := (upr S.1 a (fun _ => 0), upr S.2.1 a (fun _ => 0), upr S.2.2.1 a (fun _ => none), up1 S.2.2.2.1 a kind, up1 S.2.2.2.2 a n)
def tyOf : Nat → Nat → FieldType
  | 0 => tyJx4a65c
  | 1 => tyX0
  | 2 => tyX1
  | 3 => tyX2
  | 4 => tyX3
  | _ => tyX2
def nOf : Nat → Nat
  | 0 => 3
  | 1 => 18
  | 2 => 4
  | 3 => 2
  | 4 => 14
  | _ => 2
def fvt (t : FieldType) (i : Int32) (j : Int64) (r : Option Nat) : Value := match t with
  | .long => .long j
  | .object _ => va_rf r
  | .array _ => va_rf r
  | _ => .int i
def fv (S : Sto) (ci a k : Nat) : Value := fvt (tyOf ci k) (sI S a k) (sJ S a k) (sR S a k)
def fvs (S : Sto) (ci a : Nat) : List Value := (List.range (nOf ci)).map (fv S ci a)
theorem fvs_get {S : Sto} {ci a k : Nat} (h : k < nOf ci) : (fvs S ci a)[k]? = some (fv S ci a k) := by
  simp [fvs, h]
theorem fvs_len {S : Sto} {ci a : Nat} : (fvs S ci a).length = nOf ci := by simp [fvs]
theorem fvs_set {S S1 : Sto} {ci a k : Nat} {v : Value} (h : k < nOf ci) (h1 : fv S1 ci a k = v) (h2 : ∀ j, j ≠ k → fv S1 ci a j = fv S ci a j) : (fvs S ci a).set k v = fvs S1 ci a := by
  apply List.ext_getElem?
  intro j
  by_cases hj : j = k
  · subst hj
    rw [List.getElem?_set_self (by rw [fvs_len]; exact h), fvs_get h, h1]
  · rw [List.getElem?_set_ne (Ne.symm hj)]
    by_cases hn : j < nOf ci
    · rw [fvs_get hn, fvs_get hn, h2 j hj]
    · rw [List.getElem?_eq_none (by rw [fvs_len]; omega), List.getElem?_eq_none (by rw [fvs_len]; omega)]
/-- the index of an array's type among the tables' -/
def aty (k : Nat) : Nat := if k = 6 then 0 else if k = 8 then 2 else if k = 9 then 3 else 1
def acont (S : Sto) (a : Nat) : (Nat → Int32) ⊕ (Nat → Int64) ⊕ (Nat → UInt32) ⊕ (Nat → UInt64) ⊕ (Nat → Option Nat) :=
  if sK S a = 6 ∨ sK S a = 8 then .inl (sI S a) else if sK S a = 9 then .inr (.inr (.inr (.inr (sR S a)))) else .inr (.inl (sJ S a))
def ent (cy : Nat → ClassId) (S : Sto) (a : Nat) : va_E := if sK S a < 6 then .inr (sK S a, fvs S (sK S a) a) else .inl (cy (aty (sK S a)), sN S a, acont S a)
abbrev tysOf (cy : Nat → ClassId) : List (ClassId × FieldType) := [(cy 0, .int), (cy 1, .long), (cy 2, .int), (cy 3, .object "java/lang/Object")]
def cok (D : va_G) (cy : Nat → ClassId) (U : State) (S : Sto) (H : Heap) (a : Nat) : Prop :=
  (sK S a ≤ 11 → va_at D vwCl (a, ent cy S a) H) ∧ (sK S a = 12 → va_X a (sN S a) (sI S a) U H) ∧ (sK S a = 13 → ∃ cell : Cell, H[a]? = some cell ∧ U.isArrayOf cell (.object "java/lang/Object") ∧ cell.slots.size = 0) ∧ (13 < sK S a → sK S a = 99)
def WS (D : va_G) (cy : Nat → ClassId) (U : State) (S : Sto) (H : Heap) : Prop := ∀ a, cok D cy U S H a
theorem ent_congr {cy : Nat → ClassId} {S S1 : Sto} {a : Nat} (hI : sI S1 a = sI S a) (hJ : sJ S1 a = sJ S a) (hR : sR S1 a = sR S a) (hK : sK S1 a = sK S a) (hN : sN S1 a = sN S a) : ent cy S1 a = ent cy S a := by
  have e : fv S1 (sK S a) a = fv S (sK S a) a := funext fun k => by simp only [fv, hI, hJ, hR]
  simp only [ent, fvs, e, acont, hI, hJ, hR, hK, hN]
theorem WS.moved {D : va_G} {cy : Nat → ClassId} {u U : State} {S : Sto} {H : Heap} (hvm : u.vm.Alike U.vm) (h : WS D cy u S H) : WS D cy U S H := fun a =>
  ⟨(h a).1, fun k => ((h a).2.1 k).moved hvm, fun k => by
    obtain ⟨cell, h1, h2, h3⟩ := (h a).2.2.1 k
    exact ⟨cell, h1, State.isArrayOf_alike hvm h2, h3⟩, (h a).2.2.2⟩
/-- which cells a method may change that starts with the store S and a heap of sz cells -/
def cA (S : Sto) (sz : Nat) : Nat → Prop := fun q => sK S q ≤ 11 ∨ sz ≤ q
/-- what a walk keeps of the kinds -/
def Af (S S1 : Sto) (sz : Nat) : Prop := ∀ a, (sK S a ≠ 99 → sK S1 a = sK S a) ∧ (sK S a = 99 → sK S1 a ≠ 99 → sz ≤ a ∧ sK S1 a ≤ 11)
theorem Af.rf {S : Sto} {sz : Nat} : Af S S sz := fun a => ⟨fun _ => rfl, fun h h1 => absurd h h1⟩
theorem Af.tr {S S1 S2 : Sto} {z z1 : Nat} (h : Af S S1 z) (h1 : Af S1 S2 z1) (hz : z ≤ z1) : Af S S2 z := fun a => by
  refine ⟨fun k => ?_, fun k k2 => ?_⟩
  · have e := (h a).1 k
    rw [(h1 a).1 (by rw [e]; exact k), e]
  · by_cases e : sK S1 a = 99
    · have := (h1 a).2 e k2
      exact ⟨by omega, this.2⟩
    · have f := (h a).2 k e
      exact ⟨f.1, by rw [(h1 a).1 e]; exact f.2⟩
theorem Af.own {S S1 : Sto} {z a : Nat} (h : Af S S1 z) (k : sK S1 a ≤ 11) : cA S z a := by
  by_cases e : sK S a = 99
  · exact Or.inr ((h a).2 e (by omega)).1
  · exact Or.inl (by rw [← (h a).1 e]; exact k)
theorem Af.sub {S S1 : Sto} {z z1 : Nat} (h : Af S S1 z) (hz : z ≤ z1) : ∀ q, cA S1 z1 q → cA S z q := by
  rintro q (k | k)
  · exact h.own k
  · exact Or.inr (by omega)
theorem Af.alike {S S1 : Sto} {sz : Nat} (h : sK S1 = sK S) : Af S S1 sz := fun a => by rw [h]; exact ⟨fun _ => rfl, fun h h1 => absurd h h1⟩
/-- the pool as a list -/
def plW (cy : Nat → ClassId) (S : Sto) (n : Nat) : va_W := ((List.range n).filter (fun a => decide (sK S a ≤ 11))).map (fun a => (a, ent cy S a))
theorem plW_mem {cy : Nat → ClassId} {S : Sto} {n k : Nat} {q : Nat × va_E} (h : (plW cy S n)[k]? = some q) : q.1 < n ∧ sK S q.1 ≤ 11 ∧ q.2 = ent cy S q.1 := by
  have hm := List.mem_of_getElem? h
  obtain ⟨a, ha, rfl⟩ := List.mem_map.mp hm
  obtain ⟨h1, h2⟩ := List.mem_filter.mp ha
  exact ⟨List.mem_range.mp h1, of_decide_eq_true h2, rfl⟩
theorem plW_at {cy : Nat → ClassId} {S : Sto} {n a : Nat} (h : a < n) (hk : sK S a ≤ 11) : ∃ k : Nat, (plW cy S n)[k]? = some (a, ent cy S a) := by
  have hm : (a, ent cy S a) ∈ plW cy S n := List.mem_map.mpr ⟨a, List.mem_filter.mpr ⟨List.mem_range.mpr h, decide_eq_true hk⟩, rfl⟩
  obtain ⟨k, hk⟩ := List.getElem?_of_mem hm
  exact ⟨k, hk⟩
theorem plW_apart {cy : Nat → ClassId} {S : Sto} {n i j : Nat} {p q : Nat × va_E} (hi : (plW cy S n)[i]? = some p) (hj : (plW cy S n)[j]? = some q) (h : p.1 = q.1) : i = j := by
  have nd : ((List.range n).filter (fun a => decide (sK S a ≤ 11))).Nodup := List.nodup_range.filter _
  unfold plW at hi hj
  rw [List.getElem?_map] at hi hj
  cases e1 : ((List.range n).filter (fun a => decide (sK S a ≤ 11)))[i]? with
  | none => rw [e1] at hi; cases hi
  | some a =>
    cases e2 : ((List.range n).filter (fun a => decide (sK S a ≤ 11)))[j]? with
    | none => rw [e2] at hj; cases hj
    | some b =>
      rw [e1] at hi
      rw [e2] at hj
      cases hi
      cases hj
      have hab : a = b := h
      subst hab
      have l1 := (List.getElem?_eq_some_iff.mp e1).1
      exact (List.getElem?_inj l1 nd).mp (e1.trans e2.symm)
theorem WS.lt {D : va_G} {cy : Nat → ClassId} {U : State} {S : Sto} {H : Heap} (h : WS D cy U S H) {a : Nat} (k : sK S a ≠ 99) : a < H.size := by
  obtain ⟨h1, h2, h3, h4⟩ := h a
  by_cases k1 : sK S a ≤ 11
  · exact (h1 k1).lt
  · by_cases k2 : sK S a = 12
    · obtain ⟨scr, g, -⟩ := h2 k2
      exact (Array.getElem?_eq_some_iff.mp g).1
    · by_cases k3 : sK S a = 13
      · obtain ⟨scr, g, -⟩ := h3 k3
        exact (Array.getElem?_eq_some_iff.mp g).1
      · exact absurd (h4 (by omega)) k
theorem WS.P {D : va_G} {cy : Nat → ClassId} {U : State} {S : Sto} {H : Heap} (h : WS D cy U S H) : va_P D vwCl (plW cy S H.size) H := fun k q hk => by
  obtain ⟨h1, h2, h3⟩ := plW_mem hk
  have := (h q.1).1 h2
  rw [← h3] at this
  exact this
theorem WS.D {D : va_G} {cy : Nat → ClassId} {U : State} {S0 S : Sto} {H : Heap} {z : Nat} (h : WS D cy U S H) (hA : Af S0 S z) : va_D (cA S0 z) (plW cy S H.size) := ⟨fun i j p q hi hj e => plW_apart hi hj e, fun k q hk => hA.own (plW_mem hk).2.1⟩
/-- the cells that stay outside a method's reach are as at its start -/
theorem WS.far {D : va_G} {cy : Nat → ClassId} {s : State} {S0 S : Sto} {H : Heap} {locs : List Loc} (h0 : WS D cy s S0 s.heap) (hA : Af S0 S s.heap.size) (hS : va_S (cA S0 s.heap.size) s.heap H locs) {a : Nat} (k1 : 11 < sK S a) (k2 : sK S a ≠ 99) : H[a]? = s.heap[a]? := by
  have e : sK S0 a ≠ 99 := fun e => by
    have := ((hA a).2 e k2).2
    omega
  refine hS.2.1 a (h0.lt e) ?_
  rintro (q | q)
  · have := (hA a).1 e
    omega
  · have := h0.lt e
    omega
/-- behind a change of one cell -/
theorem WS.put {D : va_G} {cy : Nat → ClassId} {s : State} {S0 S S1 : Sto} {H H1 : Heap} {locs locs1 : List Loc} {a k : Nat} (h0 : WS D cy s S0 s.heap) (h : WS D cy s S H) (hA : Af S0 S s.heap.size) (hS : va_S (cA S0 s.heap.size) s.heap H locs) (hS1 : va_S (cA S0 s.heap.size) s.heap H1 locs1)
    (hk : sK S a ≤ 11) (hp : (plW cy S H.size)[k]? = some (a, ent cy S a)) (hK : sK S1 = sK S) (hN : sN S1 = sN S) (hI : ∀ b, b ≠ a → sI S1 b = sI S b) (hJ : ∀ b, b ≠ a → sJ S1 b = sJ S b) (hR : ∀ b, b ≠ a → sR S1 b = sR S b)
    (hP : va_P D vwCl ((plW cy S H.size).set k (a, ent cy S1 a)) H1) : WS D cy s S1 H1 := by
  have hA1 : Af S0 S1 s.heap.size := hA.tr (Af.alike (sz := s.heap.size) hK) (Nat.le_refl _)
  intro b
  by_cases hb : b = a
  · subst hb
    have hl := (List.getElem?_eq_some_iff.mp hp).1
    have g : va_at D vwCl (b, ent cy S1 b) H1 := hP k _ (List.getElem?_set_self hl)
    refine ⟨fun _ => g, fun q => ?_, fun q => ?_, fun q => ?_⟩ <;> · rw [hK] at q; omega
  · have hc := h b
    refine ⟨fun q => ?_, fun q => ?_, fun q => ?_, fun q => by rw [hK] at q ⊢; exact hc.2.2.2 q⟩
    · have q' : sK S b ≤ 11 := by rw [← hK]; exact q
      obtain ⟨j, hj⟩ := plW_at (cy := cy) (h.lt (a := b) (by omega)) q'
      have hjk : k ≠ j := fun e => hb (by
        subst e
        have := hp.symm.trans hj
        cases this
        rfl)
      rw [ent_congr (hI b hb) (hJ b hb) (hR b hb) (by rw [hK]) (by rw [hN])]
      exact hP j _ (by rw [List.getElem?_set_ne hjk]; exact hj)
    · have q' : sK S b = 12 := by rw [← hK]; exact q
      have e1 := WS.far h0 hA hS (a := b) (by omega) (by omega)
      have e2 := WS.far h0 hA1 hS1 (a := b) (by omega) (by omega)
      rw [hI b hb, hN]
      exact (hc.2.1 q').kept (e2.trans e1.symm)
    · have q' : sK S b = 13 := by rw [← hK]; exact q
      have e1 := WS.far h0 hA hS (a := b) (by omega) (by omega)
      have e2 := WS.far h0 hA1 hS1 (a := b) (by omega) (by omega)
      rw [e2.trans e1.symm]
      exact hc.2.2.1 q'
/-- behind a new cell -/
theorem WS.new {D : va_G} {cy : Nat → ClassId} {s : State} {S0 S S1 : Sto} {H H1 : Heap} {locs locs1 : List Loc} {a : Nat} (h0 : WS D cy s S0 s.heap) (h : WS D cy s S H) (hA : Af S0 S s.heap.size) (hS : va_S (cA S0 s.heap.size) s.heap H locs) (hS1 : va_S (cA S0 s.heap.size) s.heap H1 locs1)
    (ha : sK S a = 99) (hz : s.heap.size ≤ a) (hk : sK S1 a ≤ 11) (hK : ∀ b, b ≠ a → sK S1 b = sK S b) (hN : ∀ b, b ≠ a → sN S1 b = sN S b) (hI : ∀ b, b ≠ a → sI S1 b = sI S b) (hJ : ∀ b, b ≠ a → sJ S1 b = sJ S b) (hR : ∀ b, b ≠ a → sR S1 b = sR S b)
    (hP : va_P D vwCl (plW cy S H.size ++ [(a, ent cy S1 a)]) H1) : WS D cy s S1 H1 ∧ Af S0 S1 s.heap.size := by
  have hA1 : Af S0 S1 s.heap.size := by
    refine hA.tr (z1 := s.heap.size) (fun b => ⟨fun q => ?_, fun q q1 => ?_⟩) (Nat.le_refl _)
    · exact hK b (fun e => by subst e; exact q ha)
    · have e : b = a := Classical.byContradiction fun e => q1 (by rw [hK b e]; exact q)
      subst e
      exact ⟨hz, hk⟩
  refine ⟨?_, hA1⟩
  intro b
  by_cases hb : b = a
  · subst hb
    have g : va_at D vwCl (b, ent cy S1 b) H1 := hP (plW cy S H.size).length _ (by simp)
    refine ⟨fun _ => g, fun q => ?_, fun q => ?_, fun q => ?_⟩ <;> omega
  · have hc := h b
    refine ⟨fun q => ?_, fun q => ?_, fun q => ?_, fun q => by rw [hK b hb] at q ⊢; exact hc.2.2.2 q⟩
    · have q' : sK S b ≤ 11 := by rw [← hK b hb]; exact q
      obtain ⟨j, hj⟩ := plW_at (cy := cy) (h.lt (a := b) (by omega)) q'
      rw [ent_congr (hI b hb) (hJ b hb) (hR b hb) (hK b hb) (hN b hb)]
      exact hP j _ (by rw [List.getElem?_append_left (List.getElem?_eq_some_iff.mp hj).1]; exact hj)
    · have q' : sK S b = 12 := by rw [← hK b hb]; exact q
      have e1 := WS.far h0 hA hS (a := b) (by omega) (by omega)
      have e2 := WS.far h0 hA1 hS1 (a := b) (by omega) (by omega)
      rw [hI b hb, hN b hb]
      exact (hc.2.1 q').kept (e2.trans e1.symm)
    · have q' : sK S b = 13 := by rw [← hK b hb]; exact q
      have e1 := WS.far h0 hA hS (a := b) (by omega) (by omega)
      have e2 := WS.far h0 hA1 hS1 (a := b) (by omega) (by omega)
      rw [e2.trans e1.symm]
      exact hc.2.2.1 q'
theorem WS.one {D : va_G} {cy : Nat → ClassId} {U : State} {S : Sto} {H : Heap} (h : WS D cy U S H) {a : Nat} (k : sK S a ≤ 11) : va_P D vwCl [(a, ent cy S a)] H := fun j q hj => by
  have hz : j < 1 := (List.getElem?_eq_some_iff.mp hj).1
  rw [show j = 0 by omega] at hj
  cases hj
  exact (h a).1 k
theorem ent_obj {cy : Nat → ClassId} {S : Sto} {a ci : Nat} (k : sK S a = ci) (h : ci < 6) : ent cy S a = .inr (ci, fvs S ci a) := by
  subst k
  simp [ent, h]
theorem ent_arr {cy : Nat → ClassId} {S : Sto} {a : Nat} (h : 6 ≤ sK S a) : ent cy S a = .inl (cy (aty (sK S a)), sN S a, acont S a) := by
  simp [ent, Nat.not_lt.mpr h]
theorem vwCl_at {ci : Nat} {q : vw_C} (h : vwCl[ci]? = some q) : ci < 6 := (List.getElem?_eq_some_iff.mp h).1
