/-! THE PROGRAM, 9: new objects, and lists that grow -/
def same5 (S S1 : Sto) (b : Nat) : Prop := sK S1 b = sK S b ∧ sN S1 b = sN S b ∧ sI S1 b = sI S b ∧ sJ S1 b = sJ S b ∧ sR S1 b = sR S b
theorem same5.rf {S : Sto} {b : Nat} : same5 S S b := ⟨rfl, rfl, rfl, rfl, rfl⟩
theorem same5.tr {S S1 S2 : Sto} {b : Nat} (h : same5 S S1 b) (h1 : same5 S1 S2 b) : same5 S S2 b := ⟨h1.1.trans h.1, h1.2.1.trans h.2.1, h1.2.2.1.trans h.2.2.1, h1.2.2.2.1.trans h.2.2.2.1, h1.2.2.2.2.trans h.2.2.2.2⟩
theorem same5.I {S S1 : Sto} {a b k : Nat} {v : Int32} (h : same5 S S1 b) (hb : b ≠ a) : same5 S (uI S1 a k v) b := ⟨h.1, h.2.1, (up2_ne hb).trans h.2.2.1, h.2.2.2.1, h.2.2.2.2⟩
theorem same5.J {S S1 : Sto} {a b k : Nat} {v : Int64} (h : same5 S S1 b) (hb : b ≠ a) : same5 S (uJ S1 a k v) b := ⟨h.1, h.2.1, h.2.2.1, (up2_ne hb).trans h.2.2.2.1, h.2.2.2.2⟩
theorem same5.R {S S1 : Sto} {a b k : Nat} {v : Option Nat} (h : same5 S S1 b) (hb : b ≠ a) : same5 S (uR S1 a k v) b := ⟨h.1, h.2.1, h.2.2.1, h.2.2.2.1, (up2_ne hb).trans h.2.2.2.2⟩
theorem same5.A {S S1 : Sto} {a b k n : Nat} (h : same5 S S1 b) (hb : b ≠ a) : same5 S (sal S1 a k n) b := ⟨(up1_ne hb).trans h.1, (up1_ne hb).trans h.2.1, (upr_ne hb).trans h.2.2.1, (upr_ne hb).trans h.2.2.2.1, (upr_ne hb).trans h.2.2.2.2⟩
/-- a new object at a, its fields as laid so far -/
def NC (S S1 : Sto) (a kd : Nat) (fi : Nat → Int32) (fj : Nat → Int64) : Prop := (∀ b, b ≠ a → same5 S S1 b) ∧ sK S1 a = kd ∧ sI S1 a = fi ∧ sJ S1 a = fj
abbrev pI (f : Nat → Int32) (k : Nat) (v : Int32) : Nat → Int32 := fun j => if j = k then v else f j
abbrev pJ (f : Nat → Int64) (k : Nat) (v : Int64) : Nat → Int64 := fun j => if j = k then v else f j
theorem NC.start {S : Sto} {a kd n : Nat} : NC S (sal S a kd n) a kd (fun _ => 0) (fun _ => 0) := ⟨fun b hb => same5.rf.A hb, up1_self, upr_self, upr_self⟩
theorem NC.I {S S1 : Sto} {a kd k : Nat} {fi : Nat → Int32} {fj : Nat → Int64} {v : Int32} (h : NC S S1 a kd fi fj) : NC S (uI S1 a k v) a kd (pI fi k v) fj := ⟨fun b hb => (h.1 b hb).I hb, h.2.1, up2_one h.2.2.1, h.2.2.2⟩
theorem NC.J {S S1 : Sto} {a kd k : Nat} {fi : Nat → Int32} {fj : Nat → Int64} {v : Int64} (h : NC S S1 a kd fi fj) : NC S (uJ S1 a k v) a kd fi (pJ fj k v) := ⟨fun b hb => (h.1 b hb).J hb, h.2.1, h.2.2.1, up2_one h.2.2.2⟩
def ND (S S1 : Sto) (a pa : Nat) (fi : Nat → Int32) (fj : Nat → Int64) : Prop := (∀ b, b ≠ a → b ≠ pa → same5 S S1 b) ∧ sK S1 a = 1 ∧ sI S1 a = fi ∧ sJ S1 a = fj ∧ sR S1 a 16 = some pa ∧ sK S1 pa = 7 ∧ sN S1 pa = 70 ∧ sJ S1 pa = (fun _ => 0) ∧ pa ≠ a
theorem NC.arr {S S1 : Sto} {a pa : Nat} {fi : Nat → Int32} {fj : Nat → Int64} (h : NC S S1 a 1 fi fj) (hp : sK S1 pa = 99) : ND S (uR (sal S1 pa 7 70) a 16 (some pa)) a pa fi fj := by
  obtain ⟨h1, h2, h3, h4⟩ := h
  have hne : a ≠ pa := fun e => by rw [← e, h2] at hp; cases hp
  exact ⟨fun b hb hb2 => ((h1 b hb).A hb2).R hb, (up1_ne hne).trans h2, (upr_ne hne).trans h3, (upr_ne hne).trans h4, up2_self, up1_self, up1_self, upr_self, Ne.symm hne⟩
theorem ND.I {S S1 : Sto} {a pa k : Nat} {fi : Nat → Int32} {fj : Nat → Int64} {v : Int32} (h : ND S S1 a pa fi fj) : ND S (uI S1 a k v) a pa (pI fi k v) fj := ⟨fun b hb hb2 => (h.1 b hb hb2).I hb, h.2.1, up2_one h.2.2.1, h.2.2.2⟩
theorem ND.J {S S1 : Sto} {a pa k : Nat} {fi : Nat → Int32} {fj : Nat → Int64} {v : Int64} (h : ND S S1 a pa fi fj) : ND S (uJ S1 a k v) a pa fi (pJ fj k v) := ⟨fun b hb hb2 => (h.1 b hb hb2).J hb, h.2.1, h.2.2.1, up2_one h.2.2.2.1, h.2.2.2.2.1, h.2.2.2.2.2.1, h.2.2.2.2.2.2.1, (up2_ne h.2.2.2.2.2.2.2.2).trans h.2.2.2.2.2.2.2.1, h.2.2.2.2.2.2.2.2⟩
/-- kinds of Claimclub's world -/
def ck (k : Nat) : Prop := k ≤ 4 ∨ k = 7 ∨ k = 9 ∨ k = 13
theorem lst_fr {tm : Nat × Nat} {S S1 : Sto} {al n kd : Nat} {ca ca' : Nat → Nat} (h : Lst tm S al n kd ca) (hkd : kd ≤ 4) (hs : ∀ b, ck (sK S b) → same5 S S1 b) (hc : ∀ i, i < n → ca' i = ca i) : Lst tm S1 al n kd ca' := by
  obtain ⟨k0, ed, h1, h2, h3, h4, h5, h6⟩ := h
  obtain ⟨a1, a2, a3, a4, a5⟩ := hs al (Or.inl (by omega))
  obtain ⟨b1, b2, b3, b4, b5⟩ := hs ed (by rcases h2 with ⟨h, -⟩ | ⟨-, -, h⟩ <;> simp [ck, h])
  refine ⟨a1.trans k0, ed, by rw [a5]; exact h1, by rw [b1, b2]; exact h2, by rw [b2]; exact h3, by rw [b2]; exact h4, by rw [a3]; exact h5, fun i hi => ?_⟩
  rw [b5, hc i hi]
  have hk := (h6 i hi).2
  exact ⟨(h6 i hi).1, (hs _ (Or.inl (by omega))).1.trans hk⟩
theorem lst_row {tm : Nat × Nat} {S : Sto} {al n kd x : Nat} {ca : Nat → Nat} (h : Lst tm S al n kd ca) (hx : sR S al 1 = some x) : sK S x = 9 ∨ sK S x = 13 := by
  obtain ⟨k0, ed, h1, h2, h3, h4, h5, h6⟩ := h
  cases h1.symm.trans hx
  rcases h2 with ⟨h, -⟩ | ⟨-, -, h⟩
  · exact Or.inl h
  · exact Or.inr h
section
variable {tm : Nat × Nat} {S S1 : Sto} {w : CAd} {c : CC}
theorem CW.fr (h : CW tm S w c) (hs : ∀ b, ck (sK S b) → same5 S S1 b) : CW tm S1 w c := by
  have ht := hs w.th (Or.inl (by rw [h.th]; decide))
  have hc : ∀ i, i < w.m → same5 S S1 (w.ca i) := fun i hi => hs _ (Or.inl (by rw [h.cK i hi]; decide))
  have hp : ∀ i, i < w.m → same5 S S1 (w.pa i) := fun i hi => hs _ (Or.inr (Or.inl (h.pk i hi).1))
  have ho : ∀ i, i < w.no → same5 S S1 (w.oa i) := fun i hi => hs _ (Or.inl (by rw [h.oK hi]; decide))
  have hg : ∀ i, i < w.nt → same5 S S1 (w.ta i) := fun i hi => hs _ (Or.inl (by rw [h.gK hi]; decide))
  have e1 := (hs w.al (Or.inl (by rw [h.alK]; decide))).2.2.2.2
  have e2 := (hs w.ol (Or.inl (by rw [h.olK]; decide))).2.2.2.2
  have e3 := (hs w.tl (Or.inl (by rw [h.tlK]; decide))).2.2.2.2
  refine CW.mk' (th := ht.1.trans h.th) (ral := by rw [ht.2.2.2.2]; exact h.ral) (rol := by rw [ht.2.2.2.2]; exact h.rol) (rtl := by rw [ht.2.2.2.2]; exact h.rtl) (ti := ht.2.2.1.trans h.ti) (tj := ht.2.2.2.1.trans h.tj) (lc := lst_fr h.lc (by decide) hs (fun _ _ => rfl)) (lo := lst_fr h.lo (by decide) hs (fun _ _ => rfl)) (lt := lst_fr h.lt (by decide) hs (fun _ _ => rfl)) (nm := h.nm) (cK := fun i hi => (hc i hi).1.trans (h.cK i hi)) (n40 := h.n40) (n12 := h.n12) (n10 := h.n10) (ci := fun i hi => (hc i hi).2.2.1.trans (h.ci i hi)) (cj := fun i hi => (hc i hi).2.2.2.1.trans (h.cj i hi)) (cp := fun i hi => by rw [(hc i hi).2.2.2.2]; exact h.cp i hi) (pk := fun i hi => ⟨(hp i hi).1.trans (h.pk i hi).1, (hp i hi).2.1.trans (h.pk i hi).2⟩) (pay := fun i hi => (hp i hi).2.2.2.1.trans (h.pay i hi)) (oi := fun i hi => (ho i hi).2.2.1.trans (h.oi i hi)) (oj := fun i hi => (ho i hi).2.2.2.1.trans (h.oj i hi)) (gi := fun i hi => (hg i hi).2.2.1.trans (h.gi i hi)) (pc := h.pc) (hb := h.hb) (ica := h.ica) (ipa := h.ipa) (ioa := h.ioa) (ita := h.ita) (nlo := h.nlo) (row := ?_)
  intro x
  rw [e1, e2, e3]
  have q : ∀ y, sR S w.al 1 = some y → sK S1 y = sK S y := fun y hy => (hs y (by rcases lst_row h.lc hy with z | z <;> simp [ck, z])).1
  have q2 : ∀ y, sR S w.ol 1 = some y → sK S1 y = sK S y := fun y hy => (hs y (by rcases lst_row h.lo hy with z | z <;> simp [ck, z])).1
  exact ⟨fun a b => by rw [q x a]; exact (h.row x).1 a b, fun a b => by rw [q x a]; exact (h.row x).2.1 a b, fun a b => by rw [q2 x a]; exact (h.row x).2.2 a b⟩
abbrev CAd.newc (w : CAd) (a pa : Nat) : CAd := (w.th, w.al, w.ol, w.tl, w.n, w.n + 1, w.no, w.nt, fun i => if i = w.n then a else w.ca i, fun i => if i = w.n then pa else w.pa i, w.oa, w.ta)
abbrev CC.newc (c : CC) (n : Nat) (fi : Nat → Int32) (fj : Nat → Int64) : CC := (c.ti, c.tj, upr c.ci n fi, upr c.cj n fj, upr c.pay n (fun _ => 0), c.oi, c.oj, c.gi)
theorem inj_ext {n : Nat} {f : Nat → Nat} {a : Nat} (h : ∀ i j, i < n → j < n → f i = f j → i = j) (ha : ∀ i, i < n → f i ≠ a) : ∀ i j, i < n + 1 → j < n + 1 → (if i = n then a else f i) = (if j = n then a else f j) → i = j := by
  intro i j hi hj e
  by_cases h1 : i = n
  · by_cases h2 : j = n
    · omega
    · rw [if_pos h1, if_neg h2] at e
      exact absurd e.symm (ha j (by omega))
  · by_cases h2 : j = n
    · rw [if_neg h1, if_pos h2] at e
      exact absurd e (ha i (by omega))
    · rw [if_neg h1, if_neg h2] at e
      exact h i j (by omega) (by omega) e
theorem ND.fr {a pa : Nat} {fi : Nat → Int32} {fj : Nat → Int64} (hN : ND S S1 a pa fi fj) (ha : sK S a = 99) (hp : sK S pa = 99) : ∀ b, sK S b ≠ 99 → same5 S S1 b := fun b hb => hN.1 b (fun e => hb (by rw [e]; exact ha)) (fun e => hb (by rw [e]; exact hp))
theorem FrC.of {S S1 : Sto} (h : ∀ b, sK S b ≠ 99 → same5 S S1 b) : FrC S S1 := fun b hb => h b (fun e => by rw [e] at hb; revert hb; decide)
theorem ck_ne {k : Nat} (h : ck k) : k ≠ 99 := by
  rcases h with h | h | h | h <;> omega
theorem CW.newc {a pa : Nat} {fi : Nat → Int32} {fj : Nat → Int64} (h0 : CW tm S w c) (hm : w.m = w.n) (hN : ND S S1 a pa fi fj) (ha : sK S a = 99) (hp : sK S pa = 99) (h17 : 0 ≤ fi 17) (h4 : fi 4 = 0 ∨ fi 4 = 1) : CW tm S1 (w.newc a pa) (c.newc w.n fi fj) := by
  have h : CW tm S1 w c := h0.fr (fun b hb => ND.fr hN ha hp b (ck_ne hb))
  have hna : ∀ i, i < w.n → w.ca i ≠ a := fun i hi e => by have := h0.cK i (by omega); rw [e, ha] at this; cases this
  have hnp : ∀ i, i < w.n → w.pa i ≠ pa := fun i hi e => by have := (h0.pk i (by omega)).1; rw [e, hp] at this; cases this
  obtain ⟨-, n1, n2, n3, n4, n5, n6, n7, n8⟩ := hN
  have sp : ∀ {P : Nat → Prop}, P w.n → (∀ i, i < w.n → P i) → ∀ i, i < w.n + 1 → P i := fun p q i hi => by
    by_cases e : i = w.n
    · rw [e]; exact p
    · exact q i (by omega)
  have ca0 : (w.newc a pa).ca w.n = a := if_pos rfl
  have cai : ∀ i, i < w.n → (w.newc a pa).ca i = w.ca i := fun i hi => if_neg (by omega)
  have pa0 : (w.newc a pa).pa w.n = pa := if_pos rfl
  have pai : ∀ i, i < w.n → (w.newc a pa).pa i = w.pa i := fun i hi => if_neg (by omega)
  have ci0 : (c.newc w.n fi fj).ci w.n = fi := upr_self
  have cj0 : (c.newc w.n fi fj).cj w.n = fj := upr_self
  have py0 : (c.newc w.n fi fj).pay w.n = (fun _ => 0) := upr_self
  have cii : ∀ i, i < w.n → (c.newc w.n fi fj).ci i = c.ci i := fun i hi => upr_ne (by omega)
  have cji : ∀ i, i < w.n → (c.newc w.n fi fj).cj i = c.cj i := fun i hi => upr_ne (by omega)
  have pyi : ∀ i, i < w.n → (c.newc w.n fi fj).pay i = c.pay i := fun i hi => upr_ne (by omega)
  exact CW.mk' (th := h.th) (ral := h.ral) (rol := h.rol) (rtl := h.rtl) (ti := h.ti) (tj := h.tj) (lc := lst_fr h.lc (by decide) (fun _ _ => same5.rf) cai) (lo := h.lo) (lt := h.lt) (nm := Nat.le_succ _) (cK := sp (by rw [ca0]; exact n1) (fun i hi => by rw [cai i hi]; exact h.cK i (by omega))) (n40 := h.n40) (n12 := h.n12) (n10 := h.n10) (ci := sp (by rw [ca0, ci0]; exact n2) (fun i hi => by rw [cai i hi, cii i hi]; exact h.ci i (by omega))) (cj := sp (by rw [ca0, cj0]; exact n3) (fun i hi => by rw [cai i hi, cji i hi]; exact h.cj i (by omega))) (cp := sp (by rw [ca0, pa0]; exact n4) (fun i hi => by rw [cai i hi, pai i hi]; exact h.cp i (by omega))) (pk := sp (by rw [pa0]; exact ⟨n5, n6⟩) (fun i hi => by rw [pai i hi]; exact h.pk i (by omega))) (pay := sp (by rw [pa0, py0]; exact n7) (fun i hi => by rw [pai i hi, pyi i hi]; exact h.pay i (by omega))) (oi := h.oi) (oj := h.oj) (gi := h.gi) (pc := sp (by rw [ci0]; exact h17) (fun i hi => by rw [cii i hi]; exact h.pc i (by omega))) (hb := sp (by rw [ci0]; exact h4) (fun i hi => by rw [cii i hi]; exact h.hb i (by omega))) (ica := inj_ext (fun i j hi hj => h.ica i j (by omega) (by omega)) hna) (ipa := inj_ext (fun i j hi hj => h.ipa i j (by omega) (by omega)) hnp) (ioa := h.ioa) (ita := h.ita) (nlo := h.nlo) (row := h.row)
theorem add5 {al n kd v b : Nat} {ca : Nat → Nat} (hl : Lst tm S al n kd ca) (hA : AddR tm S S1 al n kd v ca) (hb : sK S b ≠ 0 ∧ sK S b ≠ 9 ∧ sK S b ≠ 13 ∧ sK S b ≠ 99) : same5 S S1 b := by
  obtain ⟨f1, f2, f3, f4, f5⟩ := hA.2.1 b hb.2.2.2
  have h0 : b ≠ al := fun e => hb.1 (by rw [e]; exact hl.1)
  have h1 : sR S al 1 ≠ some b := fun e => by rcases lst_row hl e with z | z; exact hb.2.1 z; exact hb.2.2.1 z
  exact ⟨f1, f2, f4 h0, f3, f5 h0 h1⟩
theorem lst_oth {al n kd v ol no kd2 : Nat} {ca oa : Nat → Nat} (hl : Lst tm S al n kd ca) (hA : AddR tm S S1 al n kd v ca) (ho : Lst tm S ol no kd2 oa) (hk2 : 1 ≤ kd2 ∧ kd2 ≤ 3) (hne : ol ≠ al) (hrow : ∀ x, sR S al 1 = some x → sR S ol 1 = some x → sK S x = 13) : Lst tm S1 ol no kd2 oa ∧ sR S1 ol 1 = sR S ol 1 := by
  obtain ⟨k0, ed, h1, h2, h3, h4, h5, h6⟩ := id ho
  obtain ⟨a1, a2, a3, a4, a5⟩ := hA.2.1 ol (by rw [k0]; decide)
  have hol : sR S1 ol = sR S ol := a5 hne (fun e => by rcases lst_row hl e with z | z <;> rw [k0] at z <;> cases z)
  have hed : sK S ed = 9 ∨ sK S ed = 13 := lst_row ho h1
  obtain ⟨b1, b2, b3, b4, b5⟩ := hA.2.1 ed (by omega)
  refine ⟨⟨a1.trans k0, ed, by rw [hol]; exact h1, by rw [b1, b2]; exact h2, by rw [b2]; exact h3, by rw [b2]; exact h4, by rw [a4 hne]; exact h5, fun i hi => ?_⟩, by rw [hol]⟩
  have hk := (h6 i hi).2
  have hr : sR S1 ed = sR S ed := by
    refine b5 (fun e => ?_) (fun e => ?_)
    · rw [e, hl.1] at hed
      omega
    · have z := hrow ed e h1
      rcases h2 with ⟨q, -⟩ | ⟨-, q, -⟩
      · omega
      · omega
  rw [hr]
  exact ⟨(h6 i hi).1, (hA.2.1 _ (by omega)).1.trans hk⟩
theorem row_new {al n kd v ol no kd2 x : Nat} {ca oa : Nat → Nat} (hA : AddR tm S S1 al n kd v ca) (ho : Lst tm S ol no kd2 oa) (hr : sR S1 ol 1 = sR S ol 1) (hrow : ∀ x, sR S al 1 = some x → sR S ol 1 = some x → x = tm.1 ∧ sK S x = 13) (h1 : sR S1 al 1 = some x) (h2 : sR S1 ol 1 = some x) : x = tm.1 ∧ sK S1 x = 13 := by
  rw [hr] at h2
  rcases hA.2.2.2 with e | ⟨a, e, ha⟩
  · rw [e] at h1
    obtain ⟨q1, q2⟩ := hrow x h1 h2
    exact ⟨q1, (hA.2.1 x (by omega)).1.trans q2⟩
  · rw [e] at h1
    cases h1
    rcases lst_row ho h2 with z | z <;> omega
/-- the parts of the world that no list touches -/
def CWo (S S1 : Sto) (w : CAd) : Prop := (same5 S S1 w.th) ∧ (∀ i, i < w.m → same5 S S1 (w.ca i)) ∧ (∀ i, i < w.m → same5 S S1 (w.pa i)) ∧ (∀ i, i < w.no → same5 S S1 (w.oa i)) ∧ (∀ i, i < w.nt → same5 S S1 (w.ta i))
theorem CWo.th {S S1 : Sto} {w : CAd} (h : CWo S S1 w) : same5 S S1 w.th := h.1
theorem CWo.cl {S S1 : Sto} {w : CAd} (h : CWo S S1 w) : ∀ i, i < w.m → same5 S S1 (w.ca i) := h.2.1
theorem CWo.p {S S1 : Sto} {w : CAd} (h : CWo S S1 w) : ∀ i, i < w.m → same5 S S1 (w.pa i) := h.2.2.1
theorem CWo.o {S S1 : Sto} {w : CAd} (h : CWo S S1 w) : ∀ i, i < w.no → same5 S S1 (w.oa i) := h.2.2.2.1
theorem CWo.g {S S1 : Sto} {w : CAd} (h : CWo S S1 w) : ∀ i, i < w.nt → same5 S S1 (w.ta i) := h.2.2.2.2
theorem CWo.of (h : CW tm S w c) (hs : ∀ b, (sK S b ≠ 0 ∧ sK S b ≠ 9 ∧ sK S b ≠ 13 ∧ sK S b ≠ 99) → same5 S S1 b) : CWo S S1 w := ⟨hs _ (by rw [h.th]; decide), fun i hi => hs _ (by rw [h.cK i hi]; decide), fun i hi => hs _ (by rw [(h.pk i hi).1]; decide), fun i hi => hs _ (by rw [h.oK hi]; decide), fun i hi => hs _ (by rw [h.gK hi]; decide)⟩
theorem FrC.add {al n kd v : Nat} {ca : Nat → Nat} (hl : Lst tm S al n kd ca) (hA : AddR tm S S1 al n kd v ca) : FrC S S1 := fun b hb => add5 hl hA (by unfold mk at hb; omega)
abbrev CAd.addc (w : CAd) : CAd := (w.th, w.al, w.ol, w.tl, w.n + 1, w.m, w.no, w.nt, w.ca, w.pa, w.oa, w.ta)
theorem lst_cgc {al n kd : Nat} {ca ca' : Nat → Nat} (h : Lst tm S al n kd ca) (hc : ∀ i, i < n → ca' i = ca i) : Lst tm S al n kd ca' := by
  obtain ⟨k0, ed, h1, h2, h3, h4, h5, h6⟩ := h
  exact ⟨k0, ed, h1, h2, h3, h4, h5, fun i hi => by rw [hc i hi]; exact h6 i hi⟩
theorem CW.addc (h : CW tm S w c) (hm : w.m = w.n + 1) (hn : w.n < 40) (hA : AddR tm S S1 w.al w.n 1 (w.ca w.n) w.ca) : CW tm S1 w.addc c := by
  have o := CWo.of h (S1 := S1) (fun b hb => add5 h.lc hA hb)
  obtain ⟨lo, ro⟩ := lst_oth h.lc hA h.lo (by decide) (Ne.symm h.nlo.1) (fun x a b => ((h.row x).1 a b).2)
  obtain ⟨lt, rt⟩ := lst_oth h.lc hA h.lt (by decide) (Ne.symm h.nlo.2.1) (fun x a b => ((h.row x).2.1 a b).2)
  have lc : Lst tm S1 w.al (w.n + 1) 1 w.ca := lst_cgc hA.1 (fun i hi => by by_cases e : i = w.n; rw [if_pos e, e]; rw [if_neg e])
  have row : ∀ x, (sR S1 w.al 1 = some x → sR S1 w.ol 1 = some x → x = tm.1 ∧ sK S1 x = 13) ∧ (sR S1 w.al 1 = some x → sR S1 w.tl 1 = some x → x = tm.1 ∧ sK S1 x = 13) ∧ (sR S1 w.ol 1 = some x → sR S1 w.tl 1 = some x → x = tm.1 ∧ sK S1 x = 13) := fun x => ⟨fun a b => row_new hA h.lo ro (fun x => (h.row x).1) a b, fun a b => row_new hA h.lt rt (fun x => (h.row x).2.1) a b, fun a b => by
    rw [ro] at a
    rw [rt] at b
    obtain ⟨q1, q2⟩ := (h.row x).2.2 a b
    exact ⟨q1, (hA.2.1 x (by omega)).1.trans q2⟩⟩
  exact CW.mk' (th := o.th.1.trans h.th) (ral := by rw [o.th.2.2.2.2]; exact h.ral) (rol := by rw [o.th.2.2.2.2]; exact h.rol) (rtl := by rw [o.th.2.2.2.2]; exact h.rtl) (ti := o.th.2.2.1.trans h.ti) (tj := o.th.2.2.2.1.trans h.tj) (lc := lc) (lo := lo) (lt := lt) (nm := by show w.n + 1 ≤ w.m; omega) (cK := fun i hi => (o.cl i hi).1.trans (h.cK i hi)) (n40 := hn) (n12 := h.n12) (n10 := h.n10) (ci := fun i hi => (o.cl i hi).2.2.1.trans (h.ci i hi)) (cj := fun i hi => (o.cl i hi).2.2.2.1.trans (h.cj i hi)) (cp := fun i hi => by rw [(o.cl i hi).2.2.2.2]; exact h.cp i hi) (pk := fun i hi => ⟨(o.p i hi).1.trans (h.pk i hi).1, (o.p i hi).2.1.trans (h.pk i hi).2⟩) (pay := fun i hi => (o.p i hi).2.2.2.1.trans (h.pay i hi)) (oi := fun i hi => (o.o i hi).2.2.1.trans (h.oi i hi)) (oj := fun i hi => (o.o i hi).2.2.2.1.trans (h.oj i hi)) (gi := fun i hi => (o.g i hi).2.2.1.trans (h.gi i hi)) (pc := h.pc) (hb := h.hb) (ica := h.ica) (ipa := h.ipa) (ioa := h.ioa) (ita := h.ita) (nlo := h.nlo) (row := row)
abbrev CAd.addo (w : CAd) (a : Nat) : CAd := (w.th, w.al, w.ol, w.tl, w.n, w.m, w.no + 1, w.nt, w.ca, w.pa, fun i => if i = w.no then a else w.oa i, w.ta)
abbrev CC.addo (c : CC) (n : Nat) (fi : Nat → Int32) (fj : Nat → Int64) : CC := (c.ti, c.tj, c.ci, c.cj, c.pay, upr c.oi n fi, upr c.oj n fj, c.gi)
abbrev CAd.addg (w : CAd) (a : Nat) : CAd := (w.th, w.al, w.ol, w.tl, w.n, w.m, w.no, w.nt + 1, w.ca, w.pa, w.oa, fun i => if i = w.nt then a else w.ta i)
abbrev CC.addg (c : CC) (n : Nat) (fi : Nat → Int32) : CC := (c.ti, c.tj, c.ci, c.cj, c.pay, c.oi, c.oj, upr c.gi n fi)
theorem CW.addo {a : Nat} {fi : Nat → Int32} {fj : Nat → Int64} (h : CW tm S w c) (hn : w.no < 12) (hak : sK S a = 2) (hai : sI S a = fi) (haj : sJ S a = fj) (hna : ∀ i, i < w.no → w.oa i ≠ a) (hA : AddR tm S S1 w.ol w.no 2 a w.oa) : CW tm S1 (w.addo a) (c.addo w.no fi fj) := by
  have o := CWo.of h (S1 := S1) (fun b hb => add5 h.lo hA hb)
  have sa : same5 S S1 a := add5 h.lo hA (by rw [hak]; decide)
  obtain ⟨llc, rlc⟩ := lst_oth h.lo hA h.lc (by decide) h.nlo.1 (fun x a b => ((h.row x).1 b a).2)
  obtain ⟨llt, rlt⟩ := lst_oth h.lo hA h.lt (by decide) (Ne.symm h.nlo.2.2) (fun x a b => ((h.row x).2.2 a b).2)
  have ln : Lst tm S1 w.ol (w.no + 1) 2 (fun i => if i = w.no then a else w.oa i) := hA.1
  have row : ∀ x, (sR S1 w.al 1 = some x → sR S1 w.ol 1 = some x → x = tm.1 ∧ sK S1 x = 13) ∧ (sR S1 w.al 1 = some x → sR S1 w.tl 1 = some x → x = tm.1 ∧ sK S1 x = 13) ∧ (sR S1 w.ol 1 = some x → sR S1 w.tl 1 = some x → x = tm.1 ∧ sK S1 x = 13) := fun x => ⟨fun a b => row_new hA h.lc rlc (fun x p q => (h.row x).1 q p) b a, fun a b => by
    rw [rlc] at a
    rw [rlt] at b
    obtain ⟨q1, q2⟩ := (h.row x).2.1 a b
    exact ⟨q1, (hA.2.1 x (by omega)).1.trans q2⟩, fun a b => row_new hA h.lt rlt (fun x p q => (h.row x).2.2 p q) a b⟩
  have sp : ∀ {P : Nat → Prop}, P w.no → (∀ i, i < w.no → P i) → ∀ i, i < w.no + 1 → P i := fun p q i hi => by
    by_cases e : i = w.no
    · rw [e]; exact p
    · exact q i (by omega)
  have ta0 : (w.addo a).oa w.no = a := if_pos rfl
  have tai : ∀ i, i < w.no → (w.addo a).oa i = w.oa i := fun i hi => if_neg (by omega)
  have oi0 : (c.addo w.no fi fj).oi w.no = fi := upr_self
  have oii : ∀ i, i < w.no → (c.addo w.no fi fj).oi i = c.oi i := fun i hi => upr_ne (by omega)
  have oj0 : (c.addo w.no fi fj).oj w.no = fj := upr_self
  have oji : ∀ i, i < w.no → (c.addo w.no fi fj).oj i = c.oj i := fun i hi => upr_ne (by omega)
  exact CW.mk' (th := o.th.1.trans h.th) (ral := by rw [o.th.2.2.2.2]; exact h.ral) (rol := by rw [o.th.2.2.2.2]; exact h.rol) (rtl := by rw [o.th.2.2.2.2]; exact h.rtl) (ti := o.th.2.2.1.trans h.ti) (tj := o.th.2.2.2.1.trans h.tj) (lc := llc) (lo := ln) (lt := llt) (nm := h.nm) (cK := fun i hi => (o.cl i hi).1.trans (h.cK i hi)) (n40 := h.n40) (ci := fun i hi => (o.cl i hi).2.2.1.trans (h.ci i hi)) (cj := fun i hi => (o.cl i hi).2.2.2.1.trans (h.cj i hi)) (cp := fun i hi => by rw [(o.cl i hi).2.2.2.2]; exact h.cp i hi) (pk := fun i hi => ⟨(o.p i hi).1.trans (h.pk i hi).1, (o.p i hi).2.1.trans (h.pk i hi).2⟩) (pay := fun i hi => (o.p i hi).2.2.2.1.trans (h.pay i hi)) (pc := h.pc) (hb := h.hb) (ica := h.ica) (ipa := h.ipa) (nlo := h.nlo) (row := row) (oi := sp (by rw [ta0, oi0]; exact sa.2.2.1.trans hai) (fun i hi => by rw [tai i hi, oii i hi]; exact (o.o i hi).2.2.1.trans (h.oi i hi))) (oj := sp (by rw [ta0, oj0]; exact sa.2.2.2.1.trans haj) (fun i hi => by rw [tai i hi, oji i hi]; exact (o.o i hi).2.2.2.1.trans (h.oj i hi))) (gi := fun i hi => (o.g i hi).2.2.1.trans (h.gi i hi)) (ioa := inj_ext h.ioa hna) (ita := h.ita) (n12 := hn) (n10 := h.n10)
theorem CW.addg {a : Nat} {fi : Nat → Int32} (h : CW tm S w c) (hn : w.nt < 10) (hak : sK S a = 3) (hai : sI S a = fi) (hna : ∀ i, i < w.nt → w.ta i ≠ a) (hA : AddR tm S S1 w.tl w.nt 3 a w.ta) : CW tm S1 (w.addg a) (c.addg w.nt fi) := by
  have o := CWo.of h (S1 := S1) (fun b hb => add5 h.lt hA hb)
  have sa : same5 S S1 a := add5 h.lt hA (by rw [hak]; decide)
  obtain ⟨llc, rlc⟩ := lst_oth h.lt hA h.lc (by decide) h.nlo.2.1 (fun x a b => ((h.row x).2.1 b a).2)
  obtain ⟨llo, rlo⟩ := lst_oth h.lt hA h.lo (by decide) h.nlo.2.2 (fun x a b => ((h.row x).2.2 b a).2)
  have ln : Lst tm S1 w.tl (w.nt + 1) 3 (fun i => if i = w.nt then a else w.ta i) := hA.1
  have row : ∀ x, (sR S1 w.al 1 = some x → sR S1 w.ol 1 = some x → x = tm.1 ∧ sK S1 x = 13) ∧ (sR S1 w.al 1 = some x → sR S1 w.tl 1 = some x → x = tm.1 ∧ sK S1 x = 13) ∧ (sR S1 w.ol 1 = some x → sR S1 w.tl 1 = some x → x = tm.1 ∧ sK S1 x = 13) := fun x => ⟨fun a b => by
    rw [rlc] at a
    rw [rlo] at b
    obtain ⟨q1, q2⟩ := (h.row x).1 a b
    exact ⟨q1, (hA.2.1 x (by omega)).1.trans q2⟩, fun a b => row_new hA h.lc rlc (fun x p q => (h.row x).2.1 q p) b a, fun a b => row_new hA h.lo rlo (fun x p q => (h.row x).2.2 q p) b a⟩
  have sp : ∀ {P : Nat → Prop}, P w.nt → (∀ i, i < w.nt → P i) → ∀ i, i < w.nt + 1 → P i := fun p q i hi => by
    by_cases e : i = w.nt
    · rw [e]; exact p
    · exact q i (by omega)
  have ta0 : (w.addg a).ta w.nt = a := if_pos rfl
  have tai : ∀ i, i < w.nt → (w.addg a).ta i = w.ta i := fun i hi => if_neg (by omega)
  have gi0 : (c.addg w.nt fi).gi w.nt = fi := upr_self
  have gii : ∀ i, i < w.nt → (c.addg w.nt fi).gi i = c.gi i := fun i hi => upr_ne (by omega)
  exact CW.mk' (th := o.th.1.trans h.th) (ral := by rw [o.th.2.2.2.2]; exact h.ral) (rol := by rw [o.th.2.2.2.2]; exact h.rol) (rtl := by rw [o.th.2.2.2.2]; exact h.rtl) (ti := o.th.2.2.1.trans h.ti) (tj := o.th.2.2.2.1.trans h.tj) (lc := llc) (lo := llo) (lt := ln) (nm := h.nm) (cK := fun i hi => (o.cl i hi).1.trans (h.cK i hi)) (n40 := h.n40) (ci := fun i hi => (o.cl i hi).2.2.1.trans (h.ci i hi)) (cj := fun i hi => (o.cl i hi).2.2.2.1.trans (h.cj i hi)) (cp := fun i hi => by rw [(o.cl i hi).2.2.2.2]; exact h.cp i hi) (pk := fun i hi => ⟨(o.p i hi).1.trans (h.pk i hi).1, (o.p i hi).2.1.trans (h.pk i hi).2⟩) (pay := fun i hi => (o.p i hi).2.2.2.1.trans (h.pay i hi)) (pc := h.pc) (hb := h.hb) (ica := h.ica) (ipa := h.ipa) (nlo := h.nlo) (row := row) (oi := fun i hi => (o.o i hi).2.2.1.trans (h.oi i hi)) (oj := fun i hi => (o.o i hi).2.2.2.1.trans (h.oj i hi)) (gi := sp (by rw [ta0, gi0]; exact sa.2.2.1.trans hai) (fun i hi => by rw [tai i hi, gii i hi]; exact (o.g i hi).2.2.1.trans (h.gi i hi))) (ita := inj_ext h.ita hna) (ioa := h.ioa) (n12 := h.n12) (n10 := hn)
end
