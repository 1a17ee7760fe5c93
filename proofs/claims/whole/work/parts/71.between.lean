/-! THE LAW, 2: what holds between its calls -/
def LI (tm : Nat × Nat) (sa oa xc xm len : Nat) (s : Nat → Int32) (q : Nat) (S : Sto) (w : CAd) (v : MAd) (c : CC) (m : MC) : Prop :=
  (CW tm S w c ∧ MW S v m) ∧ (EQ w.n w.no w.nt c m ∧ BD w.n w.no w.nt q c) ∧ (w.m = w.n ∧ w.th = xc ∧ v.mm = xm) ∧ (sK S sa = 12 ∧ sN S sa = len ∧ sI S sa = s) ∧ sK S oa = 11 ∧ sN S oa = 1
/-- what a class's call leaves, whichever it is -/
def GP (tm : Nat × Nat) (xc N NO NT : Nat) (c' : CC) (S S2 : Sto) : Prop := ∃ w' : CAd, w'.th = xc ∧ w'.n = N ∧ w'.no = NO ∧ w'.nt = NT ∧ w'.m = w'.n ∧ CW tm S2 w' c' ∧ FrC S S2
theorem PO.gp {tm : Nat × Nat} {w : CAd} {S S2 : Sto} {F : Out × CC} {o : Out} (h : PO tm w S F o S2) (hm : w.m = w.n) : GP tm w.th w.n w.no w.nt F.2 S S2 := ⟨w, rfl, rfl, rfl, rfl, hm, h.2.1, h.2.2⟩
theorem PA.gp {tm : Nat × Nat} {a no nt : Nat} {oa : Nat → Nat} {S S2 : Sto} {F : Out × Nat × CC} {o : Out} (h : PA tm a oa no nt S F o S2) : GP tm a F.2.1 no nt F.2.2 S S2 := by
  obtain ⟨_, w', ⟨h1, h2, h3, h4⟩, h5, h6, h7, h8⟩ := h
  exact ⟨w', h1, h5, h3, h4, h6, h7, h8⟩
theorem PB.gp {tm : Nat × Nat} {a n0 nt : Nat} {ca : Nat → Nat} {S S2 : Sto} {F : Out × Nat × CC} {o : Out} (h : PB tm a n0 ca nt S F o S2) : GP tm a n0 F.2.1 nt F.2.2 S S2 := by
  obtain ⟨_, w', h1, ⟨h2, h3, h4⟩, h5, h6, h7, h8⟩ := h
  exact ⟨w', h1, h2, h5, h4, h6, h7, h8⟩
theorem PG.gp {tm : Nat × Nat} {a n0 no : Nat} {ca : Nat → Nat} {S S2 : Sto} {F : Out × Nat × CC} {o : Out} (h : PG tm a n0 ca no S F o S2) : GP tm a n0 no F.2.1 F.2.2 S S2 := by
  obtain ⟨_, w', h1, ⟨h2, h3, h4⟩, h5, h6, h7, h8⟩ := h
  exact ⟨w', h1, h2, h4, h5, h6, h7, h8⟩
/-- nothing, or a put into the law's own row -/
def Po (oa : Nat) (S2 S1 : Sto) : Prop := S1 = S2 ∨ ∃ x, S1 = uJ S2 oa 0 x
theorem Po.sm {oa : Nat} {S2 S1 : Sto} (h : Po oa S2 S1) {b : Nat} (hb : b ≠ oa) : same5 S2 S1 b := by
  rcases h with rfl | ⟨x, rfl⟩
  · exact same5.rf
  · exact same5.rf.J hb
theorem Po.ot {oa : Nat} {S2 S1 : Sto} (h : Po oa S2 S1) (hk : sK S2 oa = 11) (hn : sN S2 oa = 1) : sK S1 oa = 11 ∧ sN S1 oa = 1 := by
  rcases h with rfl | ⟨x, rfl⟩
  · exact ⟨hk, hn⟩
  · exact ⟨hk, hn⟩
theorem ne_oa {S : Sto} {oa b kd : Nat} (hk : sK S oa = 11) (hb : sK S b = kd) (h : kd ≠ 11) : b ≠ oa := fun e => h (by rw [← hb, e, hk])
theorem MW.po {oa : Nat} {S2 S1 : Sto} {v : MAd} {m : MC} (h : MW S2 v m) (hk : sK S2 oa = 11) (p : Po oa S2 S1) : MW S1 v m := by
  have hm := p.sm (b := v.mm) (ne_oa hk h.mm (by decide))
  have ha : ∀ i, ak i ≠ 0 → same5 S2 S1 (v.ar i) := fun i hi => p.sm (ne_oa hk (h.rr i hi).2.1 (by rcases ak_val hi with e | e | e <;> rw [e] <;> decide))
  exact MW.mk' (mm := hm.1.trans h.mm) (ti := hm.2.2.1.trans h.ti) (tj := hm.2.2.2.1.trans h.tj) (rr := fun i hi => ⟨by rw [hm.2.2.2.2]; exact (h.rr i hi).1, (ha i hi).1.trans (h.rr i hi).2.1, (ha i hi).2.1.trans (h.rr i hi).2.2⟩) (ai := fun i hi => (ha i hi).2.2.1.trans (h.ai i hi)) (aj := fun i hi => (ha i hi).2.2.2.1.trans (h.aj i hi)) (inj := h.inj)
theorem CW.po {tm : Nat × Nat} {oa : Nat} {S2 S1 : Sto} {w : CAd} {c : CC} (h : CW tm S2 w c) (hk : sK S2 oa = 11) (p : Po oa S2 S1) : CW tm S1 w c :=
  h.fr fun b hb => p.sm (fun e => by rw [e, hk] at hb; unfold ck at hb; omega)
section
variable {tm : Nat × Nat} {sa oa xc xm len q : Nat} {s : Nat → Int32} {S S1 S2 S3 : Sto} {w : CAd} {v : MAd} {c c' : CC} {m m' : MC} {N NO NT : Nat}
theorem GP.out (I : LI tm sa oa xc xm len s q S w v c m) (g : GP tm w.th N NO NT c' S S2) : sK S2 oa = 11 ∧ sN S2 oa = 1 := by
  obtain ⟨w', h1, h2, h3, h4, h5, h6, f⟩ := g
  obtain ⟨_, _, _, _, k1, k2⟩ := I
  exact f.out k1 k2
/-- after the wrapper -/
theorem LI.mid (I : LI tm sa oa xc xm len s q S w v c m) (g : GP tm w.th N NO NT c' S S2) (p : Po oa S2 S1) : MW S1 v m ∧ (sK S1 sa = 12 ∧ sN S1 sa = len ∧ sI S1 sa = s) ∧ sK S1 oa = 11 ∧ sN S1 oa = 1 := by
  obtain ⟨ok, on⟩ := GP.out I g
  obtain ⟨w', h1, h2, h3, h4, h5, h6, f⟩ := g
  obtain ⟨⟨i1, i2⟩, _, _, ⟨i3, i4, i5⟩, _, _⟩ := I
  have fs := f sa (by rw [i3]; exact Or.inr (Or.inr (Or.inr ⟨by decide, by decide⟩)))
  have fp := p.sm (b := sa) (ne_oa ok (fs.1.trans i3) (by decide))
  exact ⟨(i2.cfr f).po ok p, ⟨fp.1.trans (fs.1.trans i3), fp.2.1.trans (fs.2.1.trans i4), fp.2.2.1.trans (fs.2.2.1.trans i5)⟩, p.ot ok on⟩
/-- after the model's call -/
theorem LI.fin (I : LI tm sa oa xc xm len s q S w v c m) (g : GP tm w.th N NO NT c' S S2) (p : Po oa S2 S1) (hM : MW S3 v m') (f3 : FrM S1 S3) (E : EQ N NO NT c' m') (B : BD N NO NT (q + 1) c') : ∃ w', LI tm sa oa xc xm len s (q + 1) S3 w' v c' m' := by
  obtain ⟨_, ⟨n1, n2, n3⟩, n4, n5⟩ := I.mid g p
  obtain ⟨ok, on⟩ := GP.out I g
  obtain ⟨w', h1, h2, h3, h4, h5, h6, f⟩ := g
  obtain ⟨_, _, ⟨j1, j2, j3⟩, _⟩ := I
  have fs := f3 sa (by rw [n1]; exact Or.inr (Or.inr (Or.inr ⟨by decide, by decide⟩)))
  have fo := f3 oa (by rw [n4]; exact Or.inr (Or.inr (Or.inr ⟨by decide, by decide⟩)))
  refine ⟨w', ⟨(h6.po ok p).mfr f3, hM⟩, ?_, ⟨h5, h1.trans j2, j3⟩, ⟨fs.1.trans n1, fs.2.1.trans n2, fs.2.2.1.trans n3⟩, fo.1.trans n4, fo.2.1.trans n5⟩
  rw [h2, h3, h4]
  exact ⟨E, B⟩
theorem LI.row (I : LI tm sa oa xc xm len s q S w v c m) (g : GP tm w.th N NO NT c' S S2) (p : Po oa S2 S1) (f3 : FrM S1 S3) : sK S3 oa = 11 ∧ sN S3 oa = 1 ∧ sJ S3 oa = sJ S1 oa := by
  obtain ⟨_, ⟨n1, n2, n3⟩, n4, n5⟩ := I.mid g p
  have fo := f3 oa (by rw [n4]; exact Or.inr (Or.inr (Or.inr ⟨by decide, by decide⟩)))
  exact ⟨fo.1.trans n4, fo.2.1.trans n5, fo.2.2.2.1⟩
end
/-- a wrapper's answer, read with the relation -/
def unl (l : List (Nat × Int32)) : Prop := (∀ p ∈ l, ¬ p.2 = 0) ∧ ∀ p ∈ l, ∀ r ∈ l, p.1 = r.1 → p.2 = r.2
theorem LQI {f : Value → Int64} {P : Out → Sto → Prop} {F : Out} {l : List (Nat × Int32)} {oa : Nat} {r : Option Value} {S1 : Sto} {a th : Int32} (h : LQ f P F l oa (.inl r) S1) (c : CI l F th a) (u : unl l) :
    r = some (.int th) ∧ ∃ S2, P F S2 ∧ ((th = 0 ∧ S1 = uJ S2 oa 0 (f (.int a))) ∨ (¬ th = 0 ∧ S1 = S2)) := by
  obtain ⟨S2, hP, h⟩ := h
  rcases c with ⟨c1, c2⟩ | ⟨p, hp, c1, c2⟩
  · rcases h with ⟨v, h1, h2, h3⟩ | ⟨h1, h2, h3⟩ | ⟨p', hp', h1, h2, h3⟩
    · rw [c1] at h1
      cases h1
      exact ⟨by rw [Sum.inl.inj h2, c2], S2, hP, Or.inl ⟨c2, h3⟩⟩
    · rw [c1] at h1; cases h1
    · rw [c1] at h1; cases h1
  · rcases h with ⟨v, h1, h2, h3⟩ | ⟨h1, h2, h3⟩ | ⟨p', hp', h1, h2, h3⟩
    · rw [c1] at h1; cases h1
    · rw [c1] at h1; cases h1
    · have e := u.2 p hp p' hp' (Sum.inr.inj (c1.symm.trans h1))
      exact ⟨by rw [Sum.inl.inj h2, c2, e], S2, hP, Or.inr ⟨by rw [c2]; exact u.1 p hp, h3⟩⟩
theorem LQJ {f : Value → Int64} {P : Out → Sto → Prop} {F : Out} {l : List (Nat × Int32)} {oa : Nat} {r : Option Value} {S1 : Sto} {a : Int64} {th : Int32} (h : LQ f P F l oa (.inl r) S1) (c : CJ l F th a) (u : unl l) :
    r = some (.int th) ∧ ∃ S2, P F S2 ∧ ((th = 0 ∧ S1 = uJ S2 oa 0 (f (.long a))) ∨ (¬ th = 0 ∧ S1 = S2)) := by
  obtain ⟨S2, hP, h⟩ := h
  rcases c with ⟨c1, c2⟩ | ⟨p, hp, c1, c2⟩
  · rcases h with ⟨v, h1, h2, h3⟩ | ⟨h1, h2, h3⟩ | ⟨p', hp', h1, h2, h3⟩
    · rw [c1] at h1
      cases h1
      exact ⟨by rw [Sum.inl.inj h2, c2], S2, hP, Or.inl ⟨c2, h3⟩⟩
    · rw [c1] at h1; cases h1
    · rw [c1] at h1; cases h1
  · rcases h with ⟨v, h1, h2, h3⟩ | ⟨h1, h2, h3⟩ | ⟨p', hp', h1, h2, h3⟩
    · rw [c1] at h1; cases h1
    · rw [c1] at h1; cases h1
    · have e := u.2 p hp p' hp' (Sum.inr.inj (c1.symm.trans h1))
      exact ⟨by rw [Sum.inl.inj h2, c2, e], S2, hP, Or.inr ⟨by rw [c2]; exact u.1 p hp, h3⟩⟩
theorem LQV {f : Value → Int64} {P : Out → Sto → Prop} {F : Out} {l : List (Nat × Int32)} {oa : Nat} {r : Option Value} {S1 : Sto} {th : Int32} (h : LQ f P F l oa (.inl r) S1) (c : CV l F th) (u : unl l) :
    r = some (.int th) ∧ P F S1 := by
  obtain ⟨S2, hP, h⟩ := h
  rcases c with ⟨c1, c2⟩ | ⟨p, hp, c1, c2⟩
  · rcases h with ⟨v, h1, h2, h3⟩ | ⟨h1, h2, h3⟩ | ⟨p', hp', h1, h2, h3⟩
    · rw [c1] at h1; cases h1
    · exact ⟨by rw [Sum.inl.inj h2, c2], by rw [h3]; exact hP⟩
    · rw [c1] at h1; cases h1
  · rcases h with ⟨v, h1, h2, h3⟩ | ⟨h1, h2, h3⟩ | ⟨p', hp', h1, h2, h3⟩
    · rw [c1] at h1; cases h1
    · rw [c1] at h1; cases h1
    · have e := u.2 p hp p' hp' (Sum.inr.inj (c1.symm.trans h1))
      exact ⟨by rw [Sum.inl.inj h2, c2, e], by rw [h3]; exact hP⟩
theorem LQ.x {f : Value → Int64} {P : Out → Sto → Prop} {F : Out} {l : List (Nat × Int32)} {oa : Nat} {x : Nat} {S1 : Sto} : ¬ LQ f P F l oa (.inr x) S1 := by
  rintro ⟨S2, hP, ⟨v, h1, h2, h3⟩ | ⟨h1, h2, h3⟩ | ⟨p', hp', h1, h2, h3⟩⟩ <;> cases h2
section
variable {E : Ek} {tm : Nat × Nat} {M : MT} {Q : Out → Sto → Prop} {pc : Nat} {lo : Lv} {st : List Value} {bc bs : Nat} {S : Sto}
theorem s_sald' {a j : Nat} {i : Int32} {f : Nat → Int32} (hd : decode (mB M) pc = .ok (.iaload, 1)) (hk : sK S a = 12) (hf : sI S a = f) (e : i = nI j) (h : j < sN S a) (hn : sN S a < 2 ^ 31) (kk : Wp E tm M Q (pc + 1) lo (.int (f j) :: st) bc bs S) : Wp E tm M Q pc lo (.int i :: .ref a :: st) bc bs S := s_sald hd hk (i_nI e h hn).1 (by rw [(i_nI e h hn).2, hf]; exact kk)
end
theorem la_ix {q k : Nat} (hq : q ≤ 600) (hk : k ≤ 9) : nI (9 * q) + nI k = nI (9 * q + k) := by
  rw [re_ieq, re_iadd (by rw [re_nI (by omega), re_nI (by omega)]; omega) (by rw [re_nI (by omega), re_nI (by omega)]; omega), re_nI (by omega), re_nI (by omega), re_nI (by omega)]; omega
theorem la_b {b a d e : Nat} {n : Nat} (h : a + d + e ≤ n) : b - n ≤ b - a - d - e := by omega
