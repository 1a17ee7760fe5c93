/-! THE PROGRAM, 3: Claimclub's world: what the store holds, by numbers of claims, offers and things -/
abbrev CAd : Type := Nat × Nat × Nat × Nat × Nat × Nat × Nat × Nat × (Nat → Nat) × (Nat → Nat) × (Nat → Nat) × (Nat → Nat)
abbrev CAd.th (w : CAd) : Nat := w.1
abbrev CAd.al (w : CAd) : Nat := w.2.1
abbrev CAd.ol (w : CAd) : Nat := w.2.2.1
abbrev CAd.tl (w : CAd) : Nat := w.2.2.2.1
abbrev CAd.n (w : CAd) : Nat := w.2.2.2.2.1
abbrev CAd.m (w : CAd) : Nat := w.2.2.2.2.2.1
abbrev CAd.no (w : CAd) : Nat := w.2.2.2.2.2.2.1
abbrev CAd.nt (w : CAd) : Nat := w.2.2.2.2.2.2.2.1
abbrev CAd.ca (w : CAd) : Nat → Nat := w.2.2.2.2.2.2.2.2.1
abbrev CAd.pa (w : CAd) : Nat → Nat := w.2.2.2.2.2.2.2.2.2.1
abbrev CAd.oa (w : CAd) : Nat → Nat := w.2.2.2.2.2.2.2.2.2.2.1
abbrev CAd.ta (w : CAd) : Nat → Nat := w.2.2.2.2.2.2.2.2.2.2.2
abbrev CC : Type := (Nat → Int32) × (Nat → Int64) × (Nat → Nat → Int32) × (Nat → Nat → Int64) × (Nat → Nat → Int64) × (Nat → Nat → Int32) × (Nat → Nat → Int64) × (Nat → Nat → Int32)
abbrev CC.ti (c : CC) : Nat → Int32 := c.1
abbrev CC.tj (c : CC) : Nat → Int64 := c.2.1
abbrev CC.ci (c : CC) : Nat → Nat → Int32 := c.2.2.1
abbrev CC.cj (c : CC) : Nat → Nat → Int64 := c.2.2.2.1
abbrev CC.pay (c : CC) : Nat → Nat → Int64 := c.2.2.2.2.1
abbrev CC.oi (c : CC) : Nat → Nat → Int32 := c.2.2.2.2.2.1
abbrev CC.oj (c : CC) : Nat → Nat → Int64 := c.2.2.2.2.2.2.1
abbrev CC.gi (c : CC) : Nat → Nat → Int32 := c.2.2.2.2.2.2.2
abbrev CC.pti (c : CC) (k : Nat) (v : Int32) : CC := (fun j => if j = k then v else c.ti j, c.tj, c.ci, c.cj, c.pay, c.oi, c.oj, c.gi)
abbrev CC.ptj (c : CC) (k : Nat) (v : Int64) : CC := (c.ti, fun j => if j = k then v else c.tj j, c.ci, c.cj, c.pay, c.oi, c.oj, c.gi)
abbrev CC.pci (c : CC) (i k : Nat) (v : Int32) : CC := (c.ti, c.tj, up2 c.ci i k v, c.cj, c.pay, c.oi, c.oj, c.gi)
abbrev CC.pcj (c : CC) (i k : Nat) (v : Int64) : CC := (c.ti, c.tj, c.ci, up2 c.cj i k v, c.pay, c.oi, c.oj, c.gi)
abbrev CC.ppay (c : CC) (i k : Nat) (v : Int64) : CC := (c.ti, c.tj, c.ci, c.cj, up2 c.pay i k v, c.oi, c.oj, c.gi)
abbrev CC.poi (c : CC) (i k : Nat) (v : Int32) : CC := (c.ti, c.tj, c.ci, c.cj, c.pay, up2 c.oi i k v, c.oj, c.gi)
abbrev CC.poj (c : CC) (i k : Nat) (v : Int64) : CC := (c.ti, c.tj, c.ci, c.cj, c.pay, c.oi, up2 c.oj i k v, c.gi)
abbrev CC.pgi (c : CC) (i k : Nat) (v : Int32) : CC := (c.ti, c.tj, c.ci, c.cj, c.pay, c.oi, c.oj, up2 c.gi i k v)
def CW (tm : Nat × Nat) (S : Sto) (w : CAd) (c : CC) : Prop := (sK S w.th = 4) ∧ (sR S w.th 0 = some w.al) ∧ (sR S w.th 1 = some w.ol) ∧ (sR S w.th 2 = some w.tl) ∧ (sI S w.th = c.ti) ∧ (sJ S w.th = c.tj) ∧ (Lst tm S w.al w.n 1 w.ca) ∧ (Lst tm S w.ol w.no 2 w.oa) ∧ (Lst tm S w.tl w.nt 3 w.ta) ∧ (w.n ≤ w.m) ∧ (∀ i, i < w.m → sK S (w.ca i) = 1) ∧ (w.n ≤ 40) ∧ (w.no ≤ 12) ∧ (w.nt ≤ 10) ∧ (∀ i, i < w.m → sI S (w.ca i) = c.ci i) ∧ (∀ i, i < w.m → sJ S (w.ca i) = c.cj i) ∧ (∀ i, i < w.m → sR S (w.ca i) 16 = some (w.pa i)) ∧ (∀ i, i < w.m → sK S (w.pa i) = 7 ∧ sN S (w.pa i) = 70) ∧ (∀ i, i < w.m → sJ S (w.pa i) = c.pay i) ∧ (∀ i, i < w.no → sI S (w.oa i) = c.oi i) ∧ (∀ i, i < w.no → sJ S (w.oa i) = c.oj i) ∧ (∀ i, i < w.nt → sI S (w.ta i) = c.gi i) ∧ (∀ i, i < w.m → 0 ≤ c.ci i 17) ∧ (∀ i, i < w.m → c.ci i 4 = 0 ∨ c.ci i 4 = 1) ∧ (∀ i j, i < w.m → j < w.m → w.ca i = w.ca j → i = j) ∧ (∀ i j, i < w.m → j < w.m → w.pa i = w.pa j → i = j) ∧ (∀ i j, i < w.no → j < w.no → w.oa i = w.oa j → i = j) ∧ (∀ i j, i < w.nt → j < w.nt → w.ta i = w.ta j → i = j) ∧ (w.al ≠ w.ol ∧ w.al ≠ w.tl ∧ w.ol ≠ w.tl) ∧ (∀ x, (sR S w.al 1 = some x → sR S w.ol 1 = some x → x = tm.1 ∧ sK S x = 13) ∧ (sR S w.al 1 = some x → sR S w.tl 1 = some x → x = tm.1 ∧ sK S x = 13) ∧ (sR S w.ol 1 = some x → sR S w.tl 1 = some x → x = tm.1 ∧ sK S x = 13))
theorem CW.th {tm : Nat × Nat} {S : Sto} {w : CAd} {c : CC} (h : CW tm S w c) : sK S w.th = 4 := h.1
theorem CW.ral {tm : Nat × Nat} {S : Sto} {w : CAd} {c : CC} (h : CW tm S w c) : sR S w.th 0 = some w.al := h.2.1
theorem CW.rol {tm : Nat × Nat} {S : Sto} {w : CAd} {c : CC} (h : CW tm S w c) : sR S w.th 1 = some w.ol := h.2.2.1
theorem CW.rtl {tm : Nat × Nat} {S : Sto} {w : CAd} {c : CC} (h : CW tm S w c) : sR S w.th 2 = some w.tl := h.2.2.2.1
theorem CW.ti {tm : Nat × Nat} {S : Sto} {w : CAd} {c : CC} (h : CW tm S w c) : sI S w.th = c.ti := h.2.2.2.2.1
theorem CW.tj {tm : Nat × Nat} {S : Sto} {w : CAd} {c : CC} (h : CW tm S w c) : sJ S w.th = c.tj := h.2.2.2.2.2.1
theorem CW.lc {tm : Nat × Nat} {S : Sto} {w : CAd} {c : CC} (h : CW tm S w c) : Lst tm S w.al w.n 1 w.ca := h.2.2.2.2.2.2.1
theorem CW.lo {tm : Nat × Nat} {S : Sto} {w : CAd} {c : CC} (h : CW tm S w c) : Lst tm S w.ol w.no 2 w.oa := h.2.2.2.2.2.2.2.1
theorem CW.lt {tm : Nat × Nat} {S : Sto} {w : CAd} {c : CC} (h : CW tm S w c) : Lst tm S w.tl w.nt 3 w.ta := h.2.2.2.2.2.2.2.2.1
theorem CW.nm {tm : Nat × Nat} {S : Sto} {w : CAd} {c : CC} (h : CW tm S w c) : w.n ≤ w.m := h.2.2.2.2.2.2.2.2.2.1
theorem CW.cK {tm : Nat × Nat} {S : Sto} {w : CAd} {c : CC} (h : CW tm S w c) : ∀ i, i < w.m → sK S (w.ca i) = 1 := h.2.2.2.2.2.2.2.2.2.2.1
theorem CW.n40 {tm : Nat × Nat} {S : Sto} {w : CAd} {c : CC} (h : CW tm S w c) : w.n ≤ 40 := h.2.2.2.2.2.2.2.2.2.2.2.1
theorem CW.n12 {tm : Nat × Nat} {S : Sto} {w : CAd} {c : CC} (h : CW tm S w c) : w.no ≤ 12 := h.2.2.2.2.2.2.2.2.2.2.2.2.1
theorem CW.n10 {tm : Nat × Nat} {S : Sto} {w : CAd} {c : CC} (h : CW tm S w c) : w.nt ≤ 10 := h.2.2.2.2.2.2.2.2.2.2.2.2.2.1
theorem CW.ci {tm : Nat × Nat} {S : Sto} {w : CAd} {c : CC} (h : CW tm S w c) : ∀ i, i < w.m → sI S (w.ca i) = c.ci i := h.2.2.2.2.2.2.2.2.2.2.2.2.2.2.1
theorem CW.cj {tm : Nat × Nat} {S : Sto} {w : CAd} {c : CC} (h : CW tm S w c) : ∀ i, i < w.m → sJ S (w.ca i) = c.cj i := h.2.2.2.2.2.2.2.2.2.2.2.2.2.2.2.1
theorem CW.cp {tm : Nat × Nat} {S : Sto} {w : CAd} {c : CC} (h : CW tm S w c) : ∀ i, i < w.m → sR S (w.ca i) 16 = some (w.pa i) := h.2.2.2.2.2.2.2.2.2.2.2.2.2.2.2.2.1
theorem CW.pk {tm : Nat × Nat} {S : Sto} {w : CAd} {c : CC} (h : CW tm S w c) : ∀ i, i < w.m → sK S (w.pa i) = 7 ∧ sN S (w.pa i) = 70 := h.2.2.2.2.2.2.2.2.2.2.2.2.2.2.2.2.2.1
theorem CW.pay {tm : Nat × Nat} {S : Sto} {w : CAd} {c : CC} (h : CW tm S w c) : ∀ i, i < w.m → sJ S (w.pa i) = c.pay i := h.2.2.2.2.2.2.2.2.2.2.2.2.2.2.2.2.2.2.1
theorem CW.oi {tm : Nat × Nat} {S : Sto} {w : CAd} {c : CC} (h : CW tm S w c) : ∀ i, i < w.no → sI S (w.oa i) = c.oi i := h.2.2.2.2.2.2.2.2.2.2.2.2.2.2.2.2.2.2.2.1
theorem CW.oj {tm : Nat × Nat} {S : Sto} {w : CAd} {c : CC} (h : CW tm S w c) : ∀ i, i < w.no → sJ S (w.oa i) = c.oj i := h.2.2.2.2.2.2.2.2.2.2.2.2.2.2.2.2.2.2.2.2.1
theorem CW.gi {tm : Nat × Nat} {S : Sto} {w : CAd} {c : CC} (h : CW tm S w c) : ∀ i, i < w.nt → sI S (w.ta i) = c.gi i := h.2.2.2.2.2.2.2.2.2.2.2.2.2.2.2.2.2.2.2.2.2.1
theorem CW.pc {tm : Nat × Nat} {S : Sto} {w : CAd} {c : CC} (h : CW tm S w c) : ∀ i, i < w.m → 0 ≤ c.ci i 17 := h.2.2.2.2.2.2.2.2.2.2.2.2.2.2.2.2.2.2.2.2.2.2.1
theorem CW.hb {tm : Nat × Nat} {S : Sto} {w : CAd} {c : CC} (h : CW tm S w c) : ∀ i, i < w.m → c.ci i 4 = 0 ∨ c.ci i 4 = 1 := h.2.2.2.2.2.2.2.2.2.2.2.2.2.2.2.2.2.2.2.2.2.2.2.1
theorem CW.ica {tm : Nat × Nat} {S : Sto} {w : CAd} {c : CC} (h : CW tm S w c) : ∀ i j, i < w.m → j < w.m → w.ca i = w.ca j → i = j := h.2.2.2.2.2.2.2.2.2.2.2.2.2.2.2.2.2.2.2.2.2.2.2.2.1
theorem CW.ipa {tm : Nat × Nat} {S : Sto} {w : CAd} {c : CC} (h : CW tm S w c) : ∀ i j, i < w.m → j < w.m → w.pa i = w.pa j → i = j := h.2.2.2.2.2.2.2.2.2.2.2.2.2.2.2.2.2.2.2.2.2.2.2.2.2.1
theorem CW.ioa {tm : Nat × Nat} {S : Sto} {w : CAd} {c : CC} (h : CW tm S w c) : ∀ i j, i < w.no → j < w.no → w.oa i = w.oa j → i = j := h.2.2.2.2.2.2.2.2.2.2.2.2.2.2.2.2.2.2.2.2.2.2.2.2.2.2.1
theorem CW.ita {tm : Nat × Nat} {S : Sto} {w : CAd} {c : CC} (h : CW tm S w c) : ∀ i j, i < w.nt → j < w.nt → w.ta i = w.ta j → i = j := h.2.2.2.2.2.2.2.2.2.2.2.2.2.2.2.2.2.2.2.2.2.2.2.2.2.2.2.1
theorem CW.nlo {tm : Nat × Nat} {S : Sto} {w : CAd} {c : CC} (h : CW tm S w c) : w.al ≠ w.ol ∧ w.al ≠ w.tl ∧ w.ol ≠ w.tl := h.2.2.2.2.2.2.2.2.2.2.2.2.2.2.2.2.2.2.2.2.2.2.2.2.2.2.2.2.1
theorem CW.row {tm : Nat × Nat} {S : Sto} {w : CAd} {c : CC} (h : CW tm S w c) : ∀ x, (sR S w.al 1 = some x → sR S w.ol 1 = some x → x = tm.1 ∧ sK S x = 13) ∧ (sR S w.al 1 = some x → sR S w.tl 1 = some x → x = tm.1 ∧ sK S x = 13) ∧ (sR S w.ol 1 = some x → sR S w.tl 1 = some x → x = tm.1 ∧ sK S x = 13) := h.2.2.2.2.2.2.2.2.2.2.2.2.2.2.2.2.2.2.2.2.2.2.2.2.2.2.2.2.2
theorem CW.mk' {tm : Nat × Nat} {S : Sto} {w : CAd} {c : CC} (th : sK S w.th = 4) (ral : sR S w.th 0 = some w.al) (rol : sR S w.th 1 = some w.ol) (rtl : sR S w.th 2 = some w.tl) (ti : sI S w.th = c.ti) (tj : sJ S w.th = c.tj) (lc : Lst tm S w.al w.n 1 w.ca) (lo : Lst tm S w.ol w.no 2 w.oa) (lt : Lst tm S w.tl w.nt 3 w.ta) (nm : w.n ≤ w.m) (cK : ∀ i, i < w.m → sK S (w.ca i) = 1) (n40 : w.n ≤ 40) (n12 : w.no ≤ 12) (n10 : w.nt ≤ 10) (ci : ∀ i, i < w.m → sI S (w.ca i) = c.ci i) (cj : ∀ i, i < w.m → sJ S (w.ca i) = c.cj i) (cp : ∀ i, i < w.m → sR S (w.ca i) 16 = some (w.pa i)) (pk : ∀ i, i < w.m → sK S (w.pa i) = 7 ∧ sN S (w.pa i) = 70) (pay : ∀ i, i < w.m → sJ S (w.pa i) = c.pay i) (oi : ∀ i, i < w.no → sI S (w.oa i) = c.oi i) (oj : ∀ i, i < w.no → sJ S (w.oa i) = c.oj i) (gi : ∀ i, i < w.nt → sI S (w.ta i) = c.gi i) (pc : ∀ i, i < w.m → 0 ≤ c.ci i 17) (hb : ∀ i, i < w.m → c.ci i 4 = 0 ∨ c.ci i 4 = 1) (ica : ∀ i j, i < w.m → j < w.m → w.ca i = w.ca j → i = j) (ipa : ∀ i j, i < w.m → j < w.m → w.pa i = w.pa j → i = j) (ioa : ∀ i j, i < w.no → j < w.no → w.oa i = w.oa j → i = j) (ita : ∀ i j, i < w.nt → j < w.nt → w.ta i = w.ta j → i = j) (nlo : w.al ≠ w.ol ∧ w.al ≠ w.tl ∧ w.ol ≠ w.tl) (row : ∀ x, (sR S w.al 1 = some x → sR S w.ol 1 = some x → x = tm.1 ∧ sK S x = 13) ∧ (sR S w.al 1 = some x → sR S w.tl 1 = some x → x = tm.1 ∧ sK S x = 13) ∧ (sR S w.ol 1 = some x → sR S w.tl 1 = some x → x = tm.1 ∧ sK S x = 13)) : CW tm S w c := ⟨th, ral, rol, rtl, ti, tj, lc, lo, lt, nm, cK, n40, n12, n10, ci, cj, cp, pk, pay, oi, oj, gi, pc, hb, ica, ipa, ioa, ita, nlo, row⟩
theorem lst_kd {tm : Nat × Nat} {S : Sto} {al n kd i : Nat} {ca : Nat → Nat} (h : Lst tm S al n kd ca) (hi : i < n) : sK S (ca i) = kd := by
  obtain ⟨hk, ed, h1, h2, h3, h4, h5, h6⟩ := h
  exact (h6 i hi).2
theorem lst_al {tm : Nat × Nat} {S : Sto} {al n kd : Nat} {ca : Nat → Nat} (h : Lst tm S al n kd ca) : sK S al = 0 := h.1
theorem lst_cg {tm : Nat × Nat} {S S1 : Sto} {al n kd : Nat} {ca : Nat → Nat} (h : Lst tm S al n kd ca) (hK : sK S1 = sK S) (hN : sN S1 = sN S) (hR : sR S1 = sR S) (hI : sI S1 al = sI S al) : Lst tm S1 al n kd ca := by
  unfold Lst
  rw [hK, hN, hR, hI]
  exact h
section World
variable {tm : Nat × Nat} {S : Sto} {w : CAd} {c : CC}
theorem CW.oK (h : CW tm S w c) {i : Nat} (hi : i < w.no) : sK S (w.oa i) = 2 := lst_kd h.lo hi
theorem CW.gK (h : CW tm S w c) {i : Nat} (hi : i < w.nt) : sK S (w.ta i) = 3 := lst_kd h.lt hi
theorem CW.alK (h : CW tm S w c) : sK S w.al = 0 := h.lc.1
theorem CW.olK (h : CW tm S w c) : sK S w.ol = 0 := h.lo.1
theorem CW.tlK (h : CW tm S w c) : sK S w.tl = 0 := h.lt.1

theorem kne {S : Sto} {a b x y : Nat} (ha : sK S a = x) (hb : sK S b = y) (h : x ≠ y) : a ≠ b := fun e => h (by rw [← ha, ← hb, e])
theorem up2_one {α : Type} {f : Nat → Nat → α} {a k : Nat} {v : α} {g : Nat → α} (h : f a = g) : up2 f a k v a = fun j => if j = k then v else g j := by
  subst h
  simp [up2]
theorem up2_pp {P : Int32 → Prop} {f : Nat → Nat → Int32} {i k j q : Nat} {v : Int32} (h : P (f j q)) (hv : k = q → P v) : P (up2 f i k v j q) := by
  by_cases e : j = i
  · by_cases e2 : q = k
    · simp only [up2, if_pos e, if_pos e2]
      exact hv e2.symm
    · simp only [up2, if_pos e, if_neg e2]
      exact h
  · simp only [up2, if_neg e]
    exact h
theorem up2_row {α : Type} {f : Nat → Nat → α} {r : Nat → Nat} {g : Nat → Nat → α} {n i k : Nat} {v : α} (hi : i < n) (hr : ∀ j, j < n → f (r j) = g j) (hj : ∀ i j, i < n → j < n → r i = r j → i = j) : ∀ j, j < n → up2 f (r i) k v (r j) = up2 g i k v j := by
  intro j hjn
  by_cases e : j = i
  · subst e
    simp [up2, hr j hjn]
  · have : r j ≠ r i := fun z => e (hj j i hjn hi z)
    simp [up2, this, e, hr j hjn]
theorem CW.pti (h : CW tm S w c) {k : Nat} {v : Int32} : CW tm (uI S w.th k v) w (c.pti k v) := CW.mk' (th := h.th) (ral := h.ral) (rol := h.rol) (rtl := h.rtl) (lc := lst_cg h.lc rfl rfl rfl (up2_ne (kne h.alK h.th (by decide)))) (lo := lst_cg h.lo rfl rfl rfl (up2_ne (kne h.olK h.th (by decide)))) (lt := lst_cg h.lt rfl rfl rfl (up2_ne (kne h.tlK h.th (by decide)))) (nm := h.nm) (cK := h.cK) (n40 := h.n40) (n12 := h.n12) (n10 := h.n10) (cp := h.cp) (pk := h.pk) (ica := h.ica) (ipa := h.ipa) (ioa := h.ioa) (ita := h.ita) (nlo := h.nlo) (row := h.row) (pc := h.pc) (hb := h.hb) (ti := up2_one h.ti) (ci := fun j hj => (up2_ne (kne (h.cK _ hj) h.th (by decide))).trans (h.ci j hj)) (oi := fun j hj => (up2_ne (kne (h.oK hj) h.th (by decide))).trans (h.oi j hj)) (gi := fun j hj => (up2_ne (kne (h.gK hj) h.th (by decide))).trans (h.gi j hj)) (tj := h.tj) (cj := h.cj) (oj := h.oj) (pay := h.pay)
theorem CW.ptj (h : CW tm S w c) {k : Nat} {v : Int64} : CW tm (uJ S w.th k v) w (c.ptj k v) := CW.mk' (th := h.th) (ral := h.ral) (rol := h.rol) (rtl := h.rtl) (lc := lst_cg h.lc rfl rfl rfl rfl) (lo := lst_cg h.lo rfl rfl rfl rfl) (lt := lst_cg h.lt rfl rfl rfl rfl) (nm := h.nm) (cK := h.cK) (n40 := h.n40) (n12 := h.n12) (n10 := h.n10) (cp := h.cp) (pk := h.pk) (ica := h.ica) (ipa := h.ipa) (ioa := h.ioa) (ita := h.ita) (nlo := h.nlo) (row := h.row) (pc := h.pc) (hb := h.hb) (ti := h.ti) (ci := h.ci) (oi := h.oi) (gi := h.gi) (tj := up2_one h.tj) (cj := fun j hj => (up2_ne (kne (h.cK _ hj) h.th (by decide))).trans (h.cj j hj)) (oj := fun j hj => (up2_ne (kne (h.oK hj) h.th (by decide))).trans (h.oj j hj)) (pay := fun j hj => (up2_ne (kne (h.pk j hj).1 h.th (by decide))).trans (h.pay j hj))
theorem CW.pci (h : CW tm S w c) {i : Nat} (hi : i < w.m) {k : Nat} {v : Int32} (hv : k = 17 → 0 ≤ v) (hv4 : k = 4 → v = 0 ∨ v = 1) : CW tm (uI S (w.ca i) k v) w (c.pci i k v) := CW.mk' (th := h.th) (ral := h.ral) (rol := h.rol) (rtl := h.rtl) (lc := lst_cg h.lc rfl rfl rfl (up2_ne (kne h.alK (h.cK _ hi) (by decide)))) (lo := lst_cg h.lo rfl rfl rfl (up2_ne (kne h.olK (h.cK _ hi) (by decide)))) (lt := lst_cg h.lt rfl rfl rfl (up2_ne (kne h.tlK (h.cK _ hi) (by decide)))) (nm := h.nm) (cK := h.cK) (n40 := h.n40) (n12 := h.n12) (n10 := h.n10) (cp := h.cp) (pk := h.pk) (ica := h.ica) (ipa := h.ipa) (ioa := h.ioa) (ita := h.ita) (nlo := h.nlo) (row := h.row) (pc := fun j hj => up2_pp (P := fun z => 0 ≤ z) (h.pc j hj) hv) (hb := fun j hj => up2_pp (P := fun z => z = 0 ∨ z = 1) (h.hb j hj) hv4) (ti := (up2_ne (kne h.th (h.cK _ hi) (by decide))).trans h.ti) (ci := up2_row hi h.ci h.ica) (oi := fun j hj => (up2_ne (kne (h.oK hj) (h.cK _ hi) (by decide))).trans (h.oi j hj)) (gi := fun j hj => (up2_ne (kne (h.gK hj) (h.cK _ hi) (by decide))).trans (h.gi j hj)) (tj := h.tj) (cj := h.cj) (oj := h.oj) (pay := h.pay)
theorem CW.pcj (h : CW tm S w c) {i : Nat} (hi : i < w.m) {k : Nat} {v : Int64} : CW tm (uJ S (w.ca i) k v) w (c.pcj i k v) := CW.mk' (th := h.th) (ral := h.ral) (rol := h.rol) (rtl := h.rtl) (lc := lst_cg h.lc rfl rfl rfl rfl) (lo := lst_cg h.lo rfl rfl rfl rfl) (lt := lst_cg h.lt rfl rfl rfl rfl) (nm := h.nm) (cK := h.cK) (n40 := h.n40) (n12 := h.n12) (n10 := h.n10) (cp := h.cp) (pk := h.pk) (ica := h.ica) (ipa := h.ipa) (ioa := h.ioa) (ita := h.ita) (nlo := h.nlo) (row := h.row) (pc := h.pc) (hb := h.hb) (ti := h.ti) (ci := h.ci) (oi := h.oi) (gi := h.gi) (tj := (up2_ne (kne h.th (h.cK _ hi) (by decide))).trans h.tj) (cj := up2_row hi h.cj h.ica) (oj := fun j hj => (up2_ne (kne (h.oK hj) (h.cK _ hi) (by decide))).trans (h.oj j hj)) (pay := fun j hj => (up2_ne (kne (h.pk j hj).1 (h.cK _ hi) (by decide))).trans (h.pay j hj))
theorem CW.ppay (h : CW tm S w c) {i : Nat} (hi : i < w.m) {k : Nat} {v : Int64} : CW tm (uJ S (w.pa i) k v) w (c.ppay i k v) := CW.mk' (th := h.th) (ral := h.ral) (rol := h.rol) (rtl := h.rtl) (lc := lst_cg h.lc rfl rfl rfl rfl) (lo := lst_cg h.lo rfl rfl rfl rfl) (lt := lst_cg h.lt rfl rfl rfl rfl) (nm := h.nm) (cK := h.cK) (n40 := h.n40) (n12 := h.n12) (n10 := h.n10) (cp := h.cp) (pk := h.pk) (ica := h.ica) (ipa := h.ipa) (ioa := h.ioa) (ita := h.ita) (nlo := h.nlo) (row := h.row) (pc := h.pc) (hb := h.hb) (ti := h.ti) (ci := h.ci) (oi := h.oi) (gi := h.gi) (tj := (up2_ne (kne h.th (h.pk i hi).1 (by decide))).trans h.tj) (cj := fun j hj => (up2_ne (kne (h.cK _ hj) (h.pk i hi).1 (by decide))).trans (h.cj j hj)) (oj := fun j hj => (up2_ne (kne (h.oK hj) (h.pk i hi).1 (by decide))).trans (h.oj j hj)) (pay := up2_row hi h.pay h.ipa)
theorem CW.poj (h : CW tm S w c) {i : Nat} (hi : i < w.no) {k : Nat} {v : Int64} : CW tm (uJ S (w.oa i) k v) w (c.poj i k v) := CW.mk' (th := h.th) (ral := h.ral) (rol := h.rol) (rtl := h.rtl) (lc := lst_cg h.lc rfl rfl rfl rfl) (lo := lst_cg h.lo rfl rfl rfl rfl) (lt := lst_cg h.lt rfl rfl rfl rfl) (nm := h.nm) (cK := h.cK) (n40 := h.n40) (n12 := h.n12) (n10 := h.n10) (cp := h.cp) (pk := h.pk) (ica := h.ica) (ipa := h.ipa) (ioa := h.ioa) (ita := h.ita) (nlo := h.nlo) (row := h.row) (pc := h.pc) (hb := h.hb) (ti := h.ti) (ci := h.ci) (oi := h.oi) (gi := h.gi) (tj := (up2_ne (kne h.th (h.oK hi) (by decide))).trans h.tj) (cj := fun j hj => (up2_ne (kne (h.cK _ hj) (h.oK hi) (by decide))).trans (h.cj j hj)) (oj := up2_row hi h.oj h.ioa) (pay := fun j hj => (up2_ne (kne (h.pk j hj).1 (h.oK hi) (by decide))).trans (h.pay j hj))
theorem CW.pgi (h : CW tm S w c) {i : Nat} (hi : i < w.nt) {k : Nat} {v : Int32} : CW tm (uI S (w.ta i) k v) w (c.pgi i k v) := CW.mk' (th := h.th) (ral := h.ral) (rol := h.rol) (rtl := h.rtl) (lc := lst_cg h.lc rfl rfl rfl (up2_ne (kne h.alK (h.gK hi) (by decide)))) (lo := lst_cg h.lo rfl rfl rfl (up2_ne (kne h.olK (h.gK hi) (by decide)))) (lt := lst_cg h.lt rfl rfl rfl (up2_ne (kne h.tlK (h.gK hi) (by decide)))) (nm := h.nm) (cK := h.cK) (n40 := h.n40) (n12 := h.n12) (n10 := h.n10) (cp := h.cp) (pk := h.pk) (ica := h.ica) (ipa := h.ipa) (ioa := h.ioa) (ita := h.ita) (nlo := h.nlo) (row := h.row) (pc := h.pc) (hb := h.hb) (ti := (up2_ne (kne h.th (h.gK hi) (by decide))).trans h.ti) (ci := fun j hj => (up2_ne (kne (h.cK _ hj) (h.gK hi) (by decide))).trans (h.ci j hj)) (oi := fun j hj => (up2_ne (kne (h.oK hj) (h.gK hi) (by decide))).trans (h.oi j hj)) (gi := up2_row hi h.gi h.ita) (tj := h.tj) (cj := h.cj) (oj := h.oj) (pay := h.pay)

end World
/-- kinds that are not Claimclub's world -/
abbrev mk (k : Nat) : Prop := k = 5 ∨ k = 6 ∨ k = 8 ∨ (10 ≤ k ∧ k ≤ 12)
/-- what is not of that world stands -/
def FrC (S S1 : Sto) : Prop := ∀ b, mk (sK S b) → sK S1 b = sK S b ∧ sN S1 b = sN S b ∧ sI S1 b = sI S b ∧ sJ S1 b = sJ S b ∧ sR S1 b = sR S b
theorem FrC.rf {S : Sto} : FrC S S := fun b _ => ⟨rfl, rfl, rfl, rfl, rfl⟩
theorem FrC.tr {S S1 S2 : Sto} (h : FrC S S1) (h1 : FrC S1 S2) : FrC S S2 := fun b hb => by
  obtain ⟨a1, a2, a3, a4, a5⟩ := h b hb
  obtain ⟨b1, b2, b3, b4, b5⟩ := h1 b (by rw [a1]; exact hb)
  exact ⟨b1.trans a1, b2.trans a2, b3.trans a3, b4.trans a4, b5.trans a5⟩
theorem FrC.uI {S S1 : Sto} (h : FrC S S1) {a k kd : Nat} {v : Int32} (hk : sK S1 a = kd) (hn : ¬ mk kd) : FrC S (uI S1 a k v) := h.tr fun b hb => ⟨rfl, rfl, up2_ne (fun e => hn (by rw [← hk, ← e]; exact hb)), rfl, rfl⟩
theorem FrC.uJ {S S1 : Sto} (h : FrC S S1) {a k kd : Nat} {v : Int64} (hk : sK S1 a = kd) (hn : ¬ mk kd) : FrC S (uJ S1 a k v) := h.tr fun b hb => ⟨rfl, rfl, rfl, up2_ne (fun e => hn (by rw [← hk, ← e]; exact hb)), rfl⟩
theorem FrC.uR {S S1 : Sto} (h : FrC S S1) {a k kd : Nat} {v : Option Nat} (hk : sK S1 a = kd) (hn : ¬ mk kd) : FrC S (uR S1 a k v) := h.tr fun b hb => ⟨rfl, rfl, rfl, rfl, up2_ne (fun e => hn (by rw [← hk, ← e]; exact hb))⟩
theorem FrC.sal {S S1 : Sto} (h : FrC S S1) {a k n : Nat} (hk : sK S1 a = 99) : FrC S (sal S1 a k n) := h.tr fun b hb => by
  have hne : b ≠ a := fun e => by rw [e, hk] at hb; revert hb; decide
  exact ⟨up1_ne hne, up1_ne hne, upr_ne hne, upr_ne hne, upr_ne hne⟩
/-- posts: nothing, a long, any outcome -/
def PV (tm : Nat × Nat) (w : CAd) (S0 : Sto) (F : CC) : Out → Sto → Prop := fun o S1 => o = .inl none ∧ CW tm S1 w F ∧ FrC S0 S1
def PJ (tm : Nat × Nat) (w : CAd) (S0 : Sto) (F : Int64 × CC) : Out → Sto → Prop := fun o S1 => o = .inl (some (.long F.1)) ∧ CW tm S1 w F.2 ∧ FrC S0 S1
def PO (tm : Nat × Nat) (w : CAd) (S0 : Sto) (F : Out × CC) : Out → Sto → Prop := fun o S1 => o = F.1 ∧ CW tm S1 w F.2 ∧ FrC S0 S1
theorem PV.of {tm : Nat × Nat} {w : CAd} {S0 S1 : Sto} {F G : CC} (e : F = G) (h : CW tm S1 w G) (f : FrC S0 S1) : PV tm w S0 F (.inl none) S1 := by
  subst e
  exact ⟨rfl, h, f⟩
theorem PJ.of {tm : Nat × Nat} {w : CAd} {S0 S1 : Sto} {F : Int64 × CC} {x : Int64} {G : CC} (e : F = (x, G)) (h : CW tm S1 w G) (f : FrC S0 S1) : PJ tm w S0 F (.inl (some (.long x))) S1 := by
  subst e
  exact ⟨rfl, h, f⟩
theorem PO.of {tm : Nat × Nat} {w : CAd} {S0 S1 : Sto} {F : Out × CC} {x : Out} {G : CC} (e : F = (x, G)) (h : CW tm S1 w G) (f : FrC S0 S1) : PO tm w S0 F x S1 := by
  subst e
  exact ⟨rfl, h, f⟩
