/-! THE RELATION, 2: the class's record, its bounds, and the model's beside it -/
def gB : Nat → Int
  | 0 => 1000000
  | k + 1 => gB k * 11000 / 10000
def gL : Nat → Int
  | 0 => 1000000
  | k + 1 => gL k * 9000 / 10000
theorem gB_pos (k : Nat) : 0 < gB k := by
  induction k with
  | zero => decide
  | succ k ih => show 0 < gB k * 11000 / 10000; omega
theorem gB_up (k : Nat) : gB k ≤ gB (k + 1) := by
  have := gB_pos k
  show gB k ≤ gB k * 11000 / 10000; omega
theorem gB_mono {a b : Nat} (h : a ≤ b) : gB a ≤ gB b := by
  induction h with
  | refl => exact Int.le_refl _
  | step _ ih => exact Int.le_trans ih (gB_up _)
theorem gL_up {a b : Nat} (h : a ≤ b) (h0 : 0 ≤ gL b) : gL b ≤ gL a := by
  induction h with
  | refl => exact Int.le_refl _
  | @step k h ih =>
    have e : gL (k + 1) = gL k * 9000 / 10000 := rfl
    have hk : 0 ≤ gL k := by
      rw [e] at h0; omega
    have := ih hk
    rw [e]; omega
theorem gB60 : gB 60 ≤ 400000000 := by decide +kernel
theorem gB90 : gB 90 ≤ 6000000000 := by decide +kernel
theorem gL90 : 10 ≤ gL 90 := by decide +kernel
theorem gB_le {k : Nat} (h : k ≤ 60) : gB k ≤ 400000000 := Int.le_trans (gB_mono h) gB60
theorem gB_le9 {k : Nat} (h : k ≤ 90) : gB k ≤ 6000000000 := Int.le_trans (gB_mono h) gB90
theorem gL_ge {k : Nat} (h : k ≤ 90) : 10 ≤ gL k := Int.le_trans gL90 (gL_up h (Int.le_trans (by decide) gL90))
/-- the payments' sum -/
def psm (p : Nat → Int64) : Nat → Int64
  | 0 => 0
  | k + 1 => psm p k + p k
/-- how many things were seized -/
def szd (g : Nat → Nat → Int32) : Nat → Nat
  | 0 => 0
  | k + 1 => szd g k + (if g k 1 = 0 then 0 else 1)
/-- a claim's bounds: t calls, s things seized, owed as after y years, the year yr -/
def BC (t s y : Nat) (yr : Int) (x : Nat → Int32) (z p : Nat → Int64) : Prop :=
  (0 ≤ (x 0).toInt ∧ (x 0).toInt ≤ 4) ∧ (0 ≤ (x 1).toInt ∧ (x 1).toInt ≤ 7) ∧ (0 ≤ (x 2).toInt ∧ (x 2).toInt ≤ 2) ∧
  ((-1 ≤ (x 3).toInt ∧ (x 3).toInt ≤ 3) ∧ (x 0 = 1 → 0 ≤ (x 3).toInt)) ∧ (x 4 = 0 ∨ x 4 = 1) ∧ (0 ≤ (x 6).toInt ∧ (x 6).toInt ≤ 1000) ∧
  (0 ≤ (x 7).toInt ∧ (x 7).toInt ≤ yr + 30) ∧ (x 8 = 0 ∨ x 8 = 1 ∨ x 8 = 2) ∧ (0 ≤ (x 17).toInt ∧ (x 17).toInt ≤ y + s) ∧
  (0 ≤ (z 5).toInt ∧ 0 ≤ (z 9).toInt ∧ (z 5).toInt + (z 9).toInt ≤ gB y) ∧ (0 ≤ (z 10).toInt ∧ (z 10).toInt ≤ 1000000 * t) ∧
  (0 ≤ (z 13).toInt ∧ (z 13).toInt ≤ 2000000000) ∧ (0 ≤ (z 14).toInt ∧ (z 14).toInt ≤ 2000000000) ∧
  (∀ k, ix (x 17) ≤ k → p k = 0) ∧ psm p 70 = z 15
/-- the class's bounds, what is owed of claim i as after yf i years -/
def BG (n no nt t : Nat) (yf : Nat → Nat) (c : CC) : Prop :=
  (n ≤ 40 ∧ no ≤ 12 ∧ nt ≤ 10 ∧ t ≤ 600) ∧ (0 ≤ (c.ti 3).toInt ∧ (c.ti 3).toInt ≤ 60) ∧ (-1000 ≤ (c.ti 6).toInt ∧ (c.ti 6).toInt ≤ 1000) ∧
  (-200 ≤ (c.ti 7).toInt ∧ (c.ti 7).toInt ≤ 200) ∧ (0 ≤ (c.ti 8).toInt ∧ (c.ti 8).toInt ≤ 1500) ∧ (∃ k, k < 32 ∧ c.ti 9 = nI k) ∧
  (∃ k, k < 256 ∧ c.ti 10 = nI k) ∧ (0 ≤ (c.ti 11).toInt ∧ (c.ti 11).toInt ≤ 1000000 ∧ (c.ti 13 = 0 ∨ 1 ≤ (c.ti 11).toInt)) ∧
  (gL (ix (c.ti 3)) ≤ (c.tj 5).toInt ∧ (c.tj 5).toInt ≤ gB (ix (c.ti 3))) ∧
  (∀ i, i < n → BC t (szd c.gi nt) (yf i) (c.ti 3).toInt (c.ci i) (c.cj i) (c.pay i)) ∧
  (∀ j, j < no → (0 ≤ (c.oi j 0).toInt ∧ (c.oi j 0).toInt ≤ 99) ∧ (0 ≤ (c.oi j 1).toInt ∧ (c.oi j 1).toInt ≤ 1000) ∧ (1 ≤ (c.oi j 2).toInt ∧ (c.oi j 2).toInt ≤ 30)) ∧
  (∀ j, j < nt → (1 ≤ (c.gi j 0).toInt ∧ (c.gi j 0).toInt ≤ 1000000))
abbrev BD (n no nt t : Nat) (c : CC) : Prop := BG n no nt t (fun _ => ix (c.ti 3)) c
/-- a claim's row beside the model's -/
def ER (x : Nat → Int32) (z : Nat → Int64) (m : MC) (i : Nat) : Prop :=
  m.ai 8 i = x 0 ∧ m.ai 9 i = x 1 ∧ m.ai 13 i = x 2 ∧ m.ai 14 i = x 3 ∧ m.ai 15 i = x 4 ∧ m.ai 11 i = x 6 ∧ m.ai 12 i = x 7 ∧ m.ai 16 i = x 8 ∧ m.ai 20 i = x 11 ∧
  m.ai 21 i = x 12 ∧ m.aj 10 i = z 5 ∧ m.aj 17 i = z 9 ∧ m.aj 18 i = z 10 ∧ m.aj 19 i = z 15
/-- a row of the model's that no claim has yet -/
def NR (m : MC) (i : Nat) : Prop := m.ai 15 i = 0 ∧ m.ai 16 i = 0 ∧ m.ai 20 i = 0 ∧ m.aj 17 i = 0 ∧ m.aj 18 i = 0 ∧ m.aj 19 i = 0
def EV (n no : Nat) (c : CC) (m : MC) : Prop := ∀ j i, j < 12 → i < 40 → (j < no → (f_X3_hasBit (c.oj j 3) (nI i) = 0 ↔ m.ai 27 (40 * j + i) ≠ 1)) ∧ ((no ≤ j ∨ n ≤ i) → m.ai 27 (40 * j + i) ≠ 1)
def EQ0 (n no nt : Nat) (c : CC) (m : MC) : Prop :=
  m.ti 7 = nI n ∧ m.ti 23 = nI no ∧ m.ti 31 = nI nt ∧ m.ti 1 = c.ti 3 ∧ m.tj 2 = c.tj 4 ∧ m.tj 3 = c.tj 5 ∧ m.ti 4 = c.ti 6 ∧ m.ti 5 = c.ti 7 ∧ m.ti 6 = c.ti 8 ∧
  m.ti 34 = c.ti 11 ∧ m.ti 35 = c.ti 12 ∧ m.ti 36 = c.ti 13 ∧ (∀ i, i < n → ER (c.ci i) (c.cj i) m i) ∧ (∀ i, n ≤ i → i < 40 → NR m i) ∧
  (∀ j, j < no → m.ai 24 j = c.oi j 0 ∧ m.ai 25 j = c.oi j 1 ∧ m.ai 26 j = c.oi j 2) ∧ EV n no c m ∧
  (∀ j, j < nt → m.ai 32 j = c.gi j 0 ∧ m.ai 33 j = c.gi j 1) ∧ (∀ j, nt ≤ j → j < 10 → m.ai 33 j = 0) ∧
  (∀ k, k < 5 → m.ai 22 k = f_X3_hasBit (c.ti 9).toInt64 (nI k)) ∧ (∀ k, k < 8 → m.ai 37 k = f_X3_hasBit (c.ti 10).toInt64 (nI k))
/-- the sums of the kinds, and which were swapped -/
def ES (n : Nat) (c : CC) (m : MC) : Prop := ∀ k, k < 5 → m.aj 29 k = (g_X3_effortOf c (nI k) n).1 ∧ m.aj 30 k = (g_X3_effortOf c (nI k) n).2 ∧ (m.ai 28 k = 0 ↔ g_X3_wasSwapped c (nI k) n = 0)
abbrev EQ (n no nt : Nat) (c : CC) (m : MC) : Prop := EQ0 n no nt c m ∧ ES n c m
/-- what a call that only moves claim i leaves -/
def Fc (i : Nat) (c c' : CC) : Prop := c'.ti = c.ti ∧ (∀ k, k ≠ 4 → c'.tj k = c.tj k) ∧ (∀ j, j ≠ i → c'.ci j = c.ci j ∧ c'.cj j = c.cj j ∧ c'.pay j = c.pay j) ∧ c'.oi = c.oi ∧ c'.oj = c.oj ∧ c'.gi = c.gi
def Fm (i : Nat) (m m' : MC) : Prop := (∀ k, k ≠ 0 → m'.ti k = m.ti k) ∧ (∀ k, k ≠ 2 → m'.tj k = m.tj k) ∧ (∀ f j, (f < 8 ∨ 21 < f ∨ j ≠ i) → m'.ai f j = m.ai f j ∧ m'.aj f j = m.aj f j)
theorem Fc.rf {i : Nat} {c : CC} : Fc i c c := ⟨rfl, fun _ _ => rfl, fun _ _ => ⟨rfl, rfl, rfl⟩, rfl, rfl, rfl⟩
theorem Fm.rf {i : Nat} {m : MC} : Fm i m m := ⟨fun _ _ => rfl, fun _ _ => rfl, fun _ _ _ => ⟨rfl, rfl⟩⟩
theorem re_up {α : Type} {f : Nat → Nat → α} {a k b : Nat} {v : α} (h : b ≠ a) : up2 f a k v b = f b := by unfold up2; rw [if_neg h]
theorem re_ups {α : Type} {f : Nat → Nat → α} {a k : Nat} {v : α} : up2 f a k v a = fun j => if j = k then v else f a j := by unfold up2; rw [if_pos rfl]
theorem re_upk {α : Type} {f : Nat → Nat → α} {a k b j : Nat} {v : α} (h : j ≠ k) : up2 f a k v b j = f b j := by
  unfold up2; split
  · exact if_neg h
  · rfl
theorem Fc.pci {i k : Nat} {v : Int32} {c c' : CC} (h : Fc i c c') : Fc i c (c'.pci i k v) := ⟨h.1, h.2.1, fun j hj => ⟨(re_up hj).trans (h.2.2.1 j hj).1, (h.2.2.1 j hj).2⟩, h.2.2.2⟩
theorem Fc.pcj {i k : Nat} {v : Int64} {c c' : CC} (h : Fc i c c') : Fc i c (c'.pcj i k v) := ⟨h.1, h.2.1, fun j hj => ⟨(h.2.2.1 j hj).1, (re_up hj).trans (h.2.2.1 j hj).2.1, (h.2.2.1 j hj).2.2⟩, h.2.2.2⟩
theorem Fc.ppay {i k : Nat} {v : Int64} {c c' : CC} (h : Fc i c c') : Fc i c (c'.ppay i k v) := ⟨h.1, h.2.1, fun j hj => ⟨(h.2.2.1 j hj).1, (h.2.2.1 j hj).2.1, (re_up hj).trans (h.2.2.1 j hj).2.2⟩, h.2.2.2⟩
theorem Fc.p4 {i : Nat} {v : Int64} {c c' : CC} (h : Fc i c c') : Fc i c (c'.ptj 4 v) := ⟨h.1, fun k hk => (if_neg hk).trans (h.2.1 k hk), h.2.2⟩
theorem Fc.tr {i : Nat} {a b c : CC} (h : Fc i a b) (g : Fc i b c) : Fc i a c :=
  ⟨g.1.trans h.1, fun k hk => (g.2.1 k hk).trans (h.2.1 k hk), fun j hj => ⟨(g.2.2.1 j hj).1.trans (h.2.2.1 j hj).1, (g.2.2.1 j hj).2.1.trans (h.2.2.1 j hj).2.1, (g.2.2.1 j hj).2.2.trans (h.2.2.1 j hj).2.2⟩, g.2.2.2.1.trans h.2.2.2.1, g.2.2.2.2.1.trans h.2.2.2.2.1, g.2.2.2.2.2.trans h.2.2.2.2.2⟩
theorem Fm.pai {i f : Nat} {v : Int32} {m m' : MC} (h : Fm i m m') (h1 : 8 ≤ f) (h2 : f ≤ 21) : Fm i m (m'.pai f i v) := ⟨h.1, h.2.1, fun g j hj => ⟨by
  refine Eq.trans ?_ (h.2.2 g j hj).1
  show up2 m'.ai f i v g j = m'.ai g j
  unfold up2; split
  · exact if_neg (by omega)
  · rfl, (h.2.2 g j hj).2⟩⟩
theorem Fm.paj {i f : Nat} {v : Int64} {m m' : MC} (h : Fm i m m') (h1 : 8 ≤ f) (h2 : f ≤ 21) : Fm i m (m'.paj f i v) := ⟨h.1, h.2.1, fun g j hj => ⟨(h.2.2 g j hj).1, by
  refine Eq.trans ?_ (h.2.2 g j hj).2
  show up2 m'.aj f i v g j = m'.aj g j
  unfold up2; split
  · exact if_neg (by omega)
  · rfl⟩⟩
theorem Fm.p2 {i : Nat} {v : Int64} {m m' : MC} (h : Fm i m m') : Fm i m (m'.ptj 2 v) := ⟨h.1, fun k hk => (if_neg hk).trans (h.2.1 k hk), h.2.2⟩
theorem Fm.p0 {i : Nat} {v : Int32} {m m' : MC} (h : Fm i m m') : Fm i m (m'.pti 0 v) := ⟨fun k hk => (if_neg hk).trans (h.1 k hk), h.2.1, h.2.2⟩
theorem Fm.tr {i : Nat} {a b c : MC} (h : Fm i a b) (g : Fm i b c) : Fm i a c :=
  ⟨fun k hk => (g.1 k hk).trans (h.1 k hk), fun k hk => (g.2.1 k hk).trans (h.2.1 k hk), fun f j hj => ⟨(g.2.2 f j hj).1.trans (h.2.2 f j hj).1, (g.2.2 f j hj).2.trans (h.2.2 f j hj).2⟩⟩
theorem ER.fm {x : Nat → Int32} {z : Nat → Int64} {m m' : MC} {i j : Nat} (h : ER x z m j) (f : Fm i m m') (hj : j ≠ i) : ER x z m' j := by
  obtain ⟨a0, a1, a2, a3, a4, a5, a6, a7, a8, a9, b0, b1, b2, b3⟩ := h
  have g := fun k => f.2.2 k j (Or.inr (Or.inr hj))
  exact ⟨(g 8).1.trans a0, (g 9).1.trans a1, (g 13).1.trans a2, (g 14).1.trans a3, (g 15).1.trans a4, (g 11).1.trans a5, (g 12).1.trans a6, (g 16).1.trans a7, (g 20).1.trans a8, (g 21).1.trans a9, (g 10).2.trans b0, (g 17).2.trans b1, (g 18).2.trans b2, (g 19).2.trans b3⟩
theorem NR.fm {m m' : MC} {i j : Nat} (h : NR m j) (f : Fm i m m') (hj : j ≠ i) : NR m' j := by
  obtain ⟨a0, a1, a2, a3, a4, a5⟩ := h
  have g := fun k => f.2.2 k j (Or.inr (Or.inr hj))
  exact ⟨(g 15).1.trans a0, (g 16).1.trans a1, (g 20).1.trans a2, (g 17).2.trans a3, (g 18).2.trans a4, (g 19).2.trans a5⟩
theorem EQ0.claim {n no nt i : Nat} {c c' : CC} {m m' : MC} (h : EQ0 n no nt c m) (hi : i < n) (fc : Fc i c c') (fm : Fm i m m') (hp : m'.tj 2 = c'.tj 4) (he : ER (c'.ci i) (c'.cj i) m' i) : EQ0 n no nt c' m' := by
  obtain ⟨e7, e23, e31, s1, s2, s3, s4, s5, s6, s7, s8, s9, er, nr, eo, ev, eg, ng, eb, ea⟩ := h
  obtain ⟨f1, f2, f3, f4, f5, f6⟩ := fc
  have fm' := fm
  obtain ⟨g1, g2, g3⟩ := fm
  have gx : ∀ f j, 21 < f → m'.ai f j = m.ai f j := fun f j hf => (g3 f j (Or.inr (Or.inl hf))).1
  refine ⟨(g1 7 (by decide)).trans e7, (g1 23 (by decide)).trans e23, (g1 31 (by decide)).trans e31, ?_, hp, ?_, ?_, ?_, ?_, ?_, ?_, ?_, ?_, ?_, ?_, ?_, ?_, ?_, ?_, ?_⟩
  · rw [g1 1 (by decide), f1, s1]
  · rw [g2 3 (by decide), f2 5 (by decide), s3]
  · rw [g1 4 (by decide), f1, s4]
  · rw [g1 5 (by decide), f1, s5]
  · rw [g1 6 (by decide), f1, s6]
  · rw [g1 34 (by decide), f1, s7]
  · rw [g1 35 (by decide), f1, s8]
  · rw [g1 36 (by decide), f1, s9]
  · intro j hj
    by_cases e : j = i
    · rw [e]; exact he
    · rw [(f3 j e).1, (f3 j e).2.1]; exact (er j hj).fm fm' e
  · intro j hj h40
    exact (nr j hj h40).fm fm' (by omega)
  · intro j hj
    rw [gx 24 j (by decide), gx 25 j (by decide), gx 26 j (by decide), f4]; exact eo j hj
  · intro j k hj hk
    rw [gx 27 _ (by decide), f5]; exact ev j k hj hk
  · intro j hj
    rw [gx 32 j (by decide), gx 33 j (by decide), f6]; exact eg j hj
  · intro j hj h10
    rw [gx 33 j (by decide)]; exact ng j hj h10
  · intro k hk
    rw [gx 22 k (by decide), f1]; exact eb k hk
  · intro k hk
    rw [gx 37 k (by decide), f1]; exact ea k hk
theorem re_eff_cg {c c' : CC} {kd : Int32} : ∀ {n : Nat}, (∀ i, i < n → c'.ci i 0 = c.ci i 0 ∧ c'.cj i 13 = c.cj i 13 ∧ c'.cj i 14 = c.cj i 14) → g_X3_effortOf c' kd n = g_X3_effortOf c kd n
  | 0, _ => rfl
  | n + 1, h => by
    have ih := re_eff_cg (kd := kd) (n := n) fun i hi => h i (by omega)
    obtain ⟨h0, h1, h2⟩ := h n (by omega)
    unfold g_X3_effortOf
    rw [ih, h0, h1, h2]
theorem re_was_cg {c c' : CC} {kd : Int32} : ∀ {n : Nat}, (∀ i, i < n → c'.ci i 0 = c.ci i 0 ∧ (c'.ci i 8 = 2 ↔ c.ci i 8 = 2)) → g_X3_wasSwapped c' kd n = g_X3_wasSwapped c kd n
  | 0, _ => rfl
  | n + 1, h => by
    have ih := re_was_cg (kd := kd) (n := n) fun i hi => h i (by omega)
    obtain ⟨h0, h1⟩ := h n (by omega)
    unfold g_X3_wasSwapped
    simp only [ih, h0, h1]
theorem ES.claim {n i : Nat} {c c' : CC} {m m' : MC} (h : ES n c m) (fc : Fc i c c') (fm : Fm i m m') (h0 : c'.ci i 0 = c.ci i 0) (h8 : c'.ci i 8 = 2 ↔ c.ci i 8 = 2) (h13 : c'.cj i 13 = c.cj i 13) (h14 : c'.cj i 14 = c.cj i 14) : ES n c' m' := by
  intro k hk
  obtain ⟨f1, f2, f3, f4, f5, f6⟩ := fc
  obtain ⟨g1, g2, g3⟩ := fm
  have gx : ∀ f j, 21 < f → m'.ai f j = m.ai f j ∧ m'.aj f j = m.aj f j := fun f j hf => g3 f j (Or.inr (Or.inl hf))
  rw [(gx 29 k (by decide)).2, (gx 30 k (by decide)).2, (gx 28 k (by decide)).1, re_eff_cg (c := c), re_was_cg (c := c)]
  · exact h k hk
  · intro j hj
    by_cases e : j = i
    · rw [e]; exact ⟨h0, h8⟩
    · rw [(f3 j e).1]; exact ⟨rfl, Iff.rfl⟩
  · intro j hj
    by_cases e : j = i
    · rw [e]; exact ⟨h0, h13, h14⟩
    · rw [(f3 j e).1, (f3 j e).2.1]; exact ⟨rfl, rfl, rfl⟩
theorem BC.mono {t t' s s' y y' : Nat} {a b : Int} {x : Nat → Int32} {z p : Nat → Int64} (h : BC t s y a x z p) (ht : t ≤ t') (hs : s ≤ s') (hy : y ≤ y') (ha : a ≤ b) : BC t' s' y' b x z p := by
  obtain ⟨b0, b1, b2, b3, b4, b5, b6, b7, b8, b9, b10, b11, b12, b13, b14⟩ := h
  have := gB_mono hy
  exact ⟨b0, b1, b2, b3, b4, b5, ⟨b6.1, by omega⟩, b7, ⟨b8.1, by omega⟩, ⟨b9.1, b9.2.1, by omega⟩, ⟨b10.1, by omega⟩, b11, b12, b13, b14⟩
theorem BG.claim {n no nt t i : Nat} {yf yf' : Nat → Nat} {c c' : CC} (h : BG n no nt t yf c) (fc : Fc i c c') (hy : ∀ j, j ≠ i → yf j ≤ yf' j) (hb : BC t (szd c.gi nt) (yf' i) (c.ti 3).toInt (c'.ci i) (c'.cj i) (c'.pay i)) : BG n no nt t yf' c' := by
  obtain ⟨b0, b1, b2, b3, b4, b5, b6, b7, b8, b9, b10, b11⟩ := h
  obtain ⟨f1, f2, f3, f4, f5, f6⟩ := fc
  refine ⟨b0, by rw [f1]; exact b1, by rw [f1]; exact b2, by rw [f1]; exact b3, by rw [f1]; exact b4, by rw [f1]; exact b5, by rw [f1]; exact b6, by rw [f1]; exact b7, by rw [f1, f2 5 (by decide)]; exact b8, ?_, by rw [f4]; exact b10, by rw [f6]; exact b11⟩
  intro j hj
  rw [f6, f1]
  by_cases e : j = i
  · rw [e]; exact hb
  · rw [(f3 j e).1, (f3 j e).2.1, (f3 j e).2.2]; exact (b9 j hj).mono (Nat.le_refl _) (Nat.le_refl _) (hy j e) (Int.le_refl _)
