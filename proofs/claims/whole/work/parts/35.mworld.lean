/-! THE PROGRAM, 16: the model's world -/
abbrev MAd : Type := Nat × (Nat → Nat)
abbrev MAd.mm (w : MAd) : Nat := w.1
abbrev MAd.ar (w : MAd) : Nat → Nat := w.2
abbrev MC : Type := (Nat → Int32) × (Nat → Int64) × (Nat → Nat → Int32) × (Nat → Nat → Int64)
abbrev MC.ti (c : MC) : Nat → Int32 := c.1
abbrev MC.tj (c : MC) : Nat → Int64 := c.2.1
abbrev MC.ai (c : MC) : Nat → Nat → Int32 := c.2.2.1
abbrev MC.aj (c : MC) : Nat → Nat → Int64 := c.2.2.2
abbrev MC.pti (c : MC) (k : Nat) (v : Int32) : MC := (fun j => if j = k then v else c.ti j, c.tj, c.ai, c.aj)
abbrev MC.ptj (c : MC) (k : Nat) (v : Int64) : MC := (c.ti, fun j => if j = k then v else c.tj j, c.ai, c.aj)
abbrev MC.pai (c : MC) (f k : Nat) (v : Int32) : MC := (c.ti, c.tj, up2 c.ai f k v, c.aj)
abbrev MC.paj (c : MC) (f k : Nat) (v : Int64) : MC := (c.ti, c.tj, c.ai, up2 c.aj f k v)
/-- the kind and the length of the model's array of field f, 0 where there is none -/
def ak (f : Nat) : Nat := ([0, 0, 0, 0, 0, 0, 0, 0, 6, 6, 10, 6, 6, 6, 6, 8, 6, 10, 10, 10, 6, 6, 8, 0, 6, 6, 6, 6, 8, 10, 10, 0, 6, 8, 0, 0, 0, 8] : List Nat).getD f 0
def aln (f : Nat) : Nat := ([0, 0, 0, 0, 0, 0, 0, 0, 40, 40, 40, 40, 40, 40, 40, 40, 40, 40, 40, 40, 40, 40, 5, 0, 12, 12, 12, 480, 5, 5, 5, 0, 10, 10, 0, 0, 0, 8] : List Nat).getD f 0
def MW (S : Sto) (w : MAd) (c : MC) : Prop := (sK S w.mm = 5) ∧ (sI S w.mm = c.ti) ∧ (sJ S w.mm = c.tj) ∧ (∀ f, ak f ≠ 0 → sR S w.mm f = some (w.ar f) ∧ sK S (w.ar f) = ak f ∧ sN S (w.ar f) = aln f) ∧ (∀ f, ak f ≠ 0 → sI S (w.ar f) = c.ai f) ∧ (∀ f, ak f ≠ 0 → sJ S (w.ar f) = c.aj f) ∧ (∀ f g, ak f ≠ 0 → ak g ≠ 0 → w.ar f = w.ar g → f = g)
theorem MW.mm {S : Sto} {w : MAd} {c : MC} (h : MW S w c) : sK S w.mm = 5 := h.1
theorem MW.ti {S : Sto} {w : MAd} {c : MC} (h : MW S w c) : sI S w.mm = c.ti := h.2.1
theorem MW.tj {S : Sto} {w : MAd} {c : MC} (h : MW S w c) : sJ S w.mm = c.tj := h.2.2.1
theorem MW.rr {S : Sto} {w : MAd} {c : MC} (h : MW S w c) : ∀ f, ak f ≠ 0 → sR S w.mm f = some (w.ar f) ∧ sK S (w.ar f) = ak f ∧ sN S (w.ar f) = aln f := h.2.2.2.1
theorem MW.ai {S : Sto} {w : MAd} {c : MC} (h : MW S w c) : ∀ f, ak f ≠ 0 → sI S (w.ar f) = c.ai f := h.2.2.2.2.1
theorem MW.aj {S : Sto} {w : MAd} {c : MC} (h : MW S w c) : ∀ f, ak f ≠ 0 → sJ S (w.ar f) = c.aj f := h.2.2.2.2.2.1
theorem MW.inj {S : Sto} {w : MAd} {c : MC} (h : MW S w c) : ∀ f g, ak f ≠ 0 → ak g ≠ 0 → w.ar f = w.ar g → f = g := h.2.2.2.2.2.2
theorem MW.mk' {S : Sto} {w : MAd} {c : MC} (mm : sK S w.mm = 5) (ti : sI S w.mm = c.ti) (tj : sJ S w.mm = c.tj) (rr : ∀ f, ak f ≠ 0 → sR S w.mm f = some (w.ar f) ∧ sK S (w.ar f) = ak f ∧ sN S (w.ar f) = aln f) (ai : ∀ f, ak f ≠ 0 → sI S (w.ar f) = c.ai f) (aj : ∀ f, ak f ≠ 0 → sJ S (w.ar f) = c.aj f) (inj : ∀ f g, ak f ≠ 0 → ak g ≠ 0 → w.ar f = w.ar g → f = g) : MW S w c := ⟨mm, ti, tj, rr, ai, aj, inj⟩
theorem ak_lt {f : Nat} (h : ak f ≠ 0) : f < 38 := by
  by_cases e : f < 38
  · exact e
  · exact absurd (by unfold ak; rw [List.getD_eq_getElem?_getD, List.getElem?_eq_none (by show 38 ≤ f; omega)]; rfl) h
theorem ak_all : ∀ f, f < 38 → ak f ≠ 0 → ak f = 6 ∨ ak f = 8 ∨ ak f = 10 := by decide
theorem ak_val {f : Nat} (h : ak f ≠ 0) : ak f = 6 ∨ ak f = 8 ∨ ak f = 10 := ak_all f (ak_lt h) h
theorem ak5 {f : Nat} (h : ak f ≠ 0) : ak f ≠ 5 := by
  rcases ak_val h with e | e | e <;> rw [e] <;> decide
theorem ak_mk {f : Nat} (h : ak f ≠ 0) : mk (ak f) := by
  rcases ak_val h with e | e | e <;> rw [e] <;> decide
section
variable {S : Sto} {w : MAd} {c : MC}
theorem MW.pti (h : MW S w c) {k : Nat} {v : Int32} : MW (uI S w.mm k v) w (c.pti k v) := MW.mk' (mm := h.mm) (ti := up2_one h.ti) (tj := h.tj) (rr := h.rr) (ai := fun f hf => (up2_ne (kne (h.rr f hf).2.1 h.mm (ak5 hf))).trans (h.ai f hf)) (aj := h.aj) (inj := h.inj)
theorem MW.ptj (h : MW S w c) {k : Nat} {v : Int64} : MW (uJ S w.mm k v) w (c.ptj k v) := MW.mk' (mm := h.mm) (ti := h.ti) (tj := up2_one h.tj) (rr := h.rr) (ai := h.ai) (aj := fun f hf => (up2_ne (kne (h.rr f hf).2.1 h.mm (ak5 hf))).trans (h.aj f hf)) (inj := h.inj)
theorem up2_arr {α : Type} {f : Nat → Nat → α} {r : Nat → Nat} {g : Nat → Nat → α} {i k : Nat} {v : α} (hi : ak i ≠ 0) (hr : ∀ j, ak j ≠ 0 → f (r j) = g j) (hj : ∀ i j, ak i ≠ 0 → ak j ≠ 0 → r i = r j → i = j) : ∀ j, ak j ≠ 0 → up2 f (r i) k v (r j) = up2 g i k v j := by
  intro j hjn
  by_cases e : j = i
  · subst e
    simp [up2, hr j hjn]
  · have : r j ≠ r i := fun z => e (hj j i hjn hi z)
    simp [up2, this, e, hr j hjn]
theorem MW.pai (h : MW S w c) {f : Nat} (hf : ak f ≠ 0) {k : Nat} {v : Int32} : MW (uI S (w.ar f) k v) w (c.pai f k v) := MW.mk' (mm := h.mm) (ti := (up2_ne (kne h.mm (h.rr f hf).2.1 (Ne.symm (ak5 hf)))).trans h.ti) (tj := h.tj) (rr := h.rr) (ai := up2_arr hf h.ai h.inj) (aj := h.aj) (inj := h.inj)
theorem MW.paj (h : MW S w c) {f : Nat} (hf : ak f ≠ 0) {k : Nat} {v : Int64} : MW (uJ S (w.ar f) k v) w (c.paj f k v) := MW.mk' (mm := h.mm) (ti := h.ti) (tj := (up2_ne (kne h.mm (h.rr f hf).2.1 (Ne.symm (ak5 hf)))).trans h.tj) (rr := h.rr) (ai := h.ai) (aj := up2_arr hf h.aj h.inj) (inj := h.inj)
end
/-- kinds that are not the model's world -/
abbrev nk (k : Nat) : Prop := k ≤ 4 ∨ k = 7 ∨ k = 9 ∨ (11 ≤ k ∧ k ≤ 13)
def FrM (S S1 : Sto) : Prop := ∀ b, nk (sK S b) → same5 S S1 b
theorem FrM.rf {S : Sto} : FrM S S := fun b _ => same5.rf
theorem FrM.tr {S S1 S2 : Sto} (h : FrM S S1) (h1 : FrM S1 S2) : FrM S S2 := fun b hb => (h b hb).tr (h1 b (by rw [(h b hb).1]; exact hb))
theorem FrM.uI {S S1 : Sto} (h : FrM S S1) {a k kd : Nat} {v : Int32} (hk : sK S1 a = kd) (hn : ¬ nk kd) : FrM S (uI S1 a k v) := h.tr fun b hb => same5.rf.I (fun e => hn (by rw [← hk, ← e]; exact hb))
theorem FrM.uJ {S S1 : Sto} (h : FrM S S1) {a k kd : Nat} {v : Int64} (hk : sK S1 a = kd) (hn : ¬ nk kd) : FrM S (uJ S1 a k v) := h.tr fun b hb => same5.rf.J (fun e => hn (by rw [← hk, ← e]; exact hb))
theorem CW.mfr {tm : Nat × Nat} {S S1 : Sto} {w : CAd} {c : CC} (h : CW tm S w c) (f : FrM S S1) : CW tm S1 w c := h.fr (fun b hb => f b (by unfold ck at hb; omega))
theorem MW.cfr {S S1 : Sto} {w : MAd} {c : MC} (h : MW S w c) (f : FrC S S1) : MW S1 w c := by
  have hm := f w.mm (by rw [h.mm]; decide)
  have ha : ∀ i, ak i ≠ 0 → same5 S S1 (w.ar i) := fun i hi => f _ (by rw [(h.rr i hi).2.1]; exact ak_mk hi)
  exact MW.mk' (mm := hm.1.trans h.mm) (ti := hm.2.2.1.trans h.ti) (tj := hm.2.2.2.1.trans h.tj) (rr := fun i hi => ⟨by rw [hm.2.2.2.2]; exact (h.rr i hi).1, (ha i hi).1.trans (h.rr i hi).2.1, (ha i hi).2.1.trans (h.rr i hi).2.2⟩) (ai := fun i hi => (ha i hi).2.2.1.trans (h.ai i hi)) (aj := fun i hi => (ha i hi).2.2.2.1.trans (h.aj i hi)) (inj := h.inj)
def NV (w : MAd) (S0 : Sto) (F : MC) : Out → Sto → Prop := fun o S1 => o = .inl none ∧ MW S1 w F ∧ FrM S0 S1
def NI (w : MAd) (S0 : Sto) (F : Int32 × MC) : Out → Sto → Prop := fun o S1 => o = .inl (some (.int F.1)) ∧ MW S1 w F.2 ∧ FrM S0 S1
def NJ (w : MAd) (S0 : Sto) (F : Int64 × MC) : Out → Sto → Prop := fun o S1 => o = .inl (some (.long F.1)) ∧ MW S1 w F.2 ∧ FrM S0 S1
theorem NV.of {w : MAd} {S0 S1 : Sto} {F G : MC} (e : F = G) (h : MW S1 w G) (f : FrM S0 S1) : NV w S0 F (.inl none) S1 := by
  subst e
  exact ⟨rfl, h, f⟩
theorem NI.of {w : MAd} {S0 S1 : Sto} {F : Int32 × MC} {x : Int32} {G : MC} (e : F = (x, G)) (h : MW S1 w G) (f : FrM S0 S1) : NI w S0 F (.inl (some (.int x))) S1 := by
  subst e
  exact ⟨rfl, h, f⟩
theorem NJ.of {w : MAd} {S0 S1 : Sto} {F : Int64 × MC} {x : Int64} {G : MC} (e : F = (x, G)) (h : MW S1 w G) (f : FrM S0 S1) : NJ w S0 F (.inl (some (.long x))) S1 := by
  subst e
  exact ⟨rfl, h, f⟩