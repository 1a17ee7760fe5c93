/-! THE RELATION, 12: calls that ask -/
/-- outcome, what was thrown by the model, its answer -/
def CI (l : List (Nat × Int32)) (o : Out) (th a : Int32) : Prop := (o = .inl (some (.int a)) ∧ th = 0) ∨ ∃ p ∈ l, o = .inr p.1 ∧ th = p.2
def CJ (l : List (Nat × Int32)) (o : Out) (th : Int32) (a : Int64) : Prop := (o = .inl (some (.long a)) ∧ th = 0) ∨ ∃ p ∈ l, o = .inr p.1 ∧ th = p.2
def CV (l : List (Nat × Int32)) (o : Out) (th : Int32) : Prop := (o = .inl none ∧ th = 0) ∨ ∃ p ∈ l, o = .inr p.1 ∧ th = p.2
theorem CI.ok {l : List (Nat × Int32)} {a th : Int32} (h : th = 0) : CI l (.inl (some (.int a))) th a := Or.inl ⟨rfl, h⟩
theorem CJ.ok {l : List (Nat × Int32)} {a : Int64} {th : Int32} (h : th = 0) : CJ l (.inl (some (.long a))) th a := Or.inl ⟨rfl, h⟩
theorem CV.ok {l : List (Nat × Int32)} {th : Int32} (h : th = 0) : CV l (.inl none) th := Or.inl ⟨rfl, h⟩
theorem CI.no {l : List (Nat × Int32)} {a th : Int32} {e : Nat} (v : Int32) (h : (e, v) ∈ l) (ht : th = v) : CI l (.inr e) th a := Or.inr ⟨_, h, rfl, ht⟩
theorem CJ.no {l : List (Nat × Int32)} {a : Int64} {th : Int32} {e : Nat} (v : Int32) (h : (e, v) ∈ l) (ht : th = v) : CJ l (.inr e) th a := Or.inr ⟨_, h, rfl, ht⟩
theorem CV.no {l : List (Nat × Int32)} {th : Int32} {e : Nat} (v : Int32) (h : (e, v) ∈ l) (ht : th = v) : CV l (.inr e) th := Or.inr ⟨_, h, rfl, ht⟩
theorem EQ.p0 {n no nt : Nat} {c : CC} {m : MC} {v : Int32} (h : EQ n no nt c m) : EQ n no nt c (m.pti 0 v) := by
  obtain ⟨⟨e7, e23, e31, s1, s2, s3, s4, s5, s6, s7, s8, s9, er, nr, eo, ev, eg, ng, eb, ea⟩, hs⟩ := h
  exact ⟨⟨e7, e23, e31, s1, s2, s3, s4, s5, s6, s7, s8, s9, er, nr, eo, ev, eg, ng, eb, ea⟩, hs⟩
theorem EQ.cl {n no nt : Nat} {c : CC} {m : MC} (h : EQ n no nt c m) (hn : n ≤ 40) {k : Int32} : f_X4_isClaim m k = 0 ↔ ¬ inr k n := by
  unfold f_X4_isClaim; rw [h.1.1]; exact re_inn (by omega)
theorem EQ.of {n no nt : Nat} {c : CC} {m : MC} (h : EQ n no nt c m) (hn : no ≤ 12) {k : Int32} : f_X4_isOffer m k = 0 ↔ ¬ inr k no := by
  unfold f_X4_isOffer; rw [h.1.2.1]; exact re_inn (by omega)
theorem EQ.th {n no nt : Nat} {c : CC} {m : MC} (h : EQ n no nt c m) (hn : nt ≤ 10) {k : Int32} : f_X4_isIn k 0 (m.ti 31 - 1) = 0 ↔ ¬ inr k nt := by
  rw [h.1.2.2.1]; exact re_inn (by omega)
theorem EQ.er {n no nt i : Nat} {c : CC} {m : MC} (h : EQ n no nt c m) (hi : i < n) : ER (c.ci i) (c.cj i) m i := h.1.2.2.2.2.2.2.2.2.2.2.2.2.1 i hi
theorem EQ.ofr {n no nt i : Nat} {c : CC} {m : MC} (h : EQ n no nt c m) (hi : i < no) : m.ai 24 i = c.oi i 0 ∧ m.ai 25 i = c.oi i 1 ∧ m.ai 26 i = c.oi i 2 := h.1.2.2.2.2.2.2.2.2.2.2.2.2.2.2.1 i hi
theorem BG.of {n no nt t i : Nat} {yf : Nat → Nat} {c : CC} (b : BG n no nt t yf c) (hi : i < no) : (0 ≤ (c.oi i 0).toInt ∧ (c.oi i 0).toInt ≤ 99) ∧ (0 ≤ (c.oi i 1).toInt ∧ (c.oi i 1).toInt ≤ 1000) ∧ (1 ≤ (c.oi i 2).toInt ∧ (c.oi i 2).toInt ≤ 30) := b.2.2.2.2.2.2.2.2.2.2.1 i hi
theorem re_kind {k : Int32} : f_X4_isKind k = 0 ↔ ¬ inr k 5 := by
  unfold f_X4_isKind; rw [re_in]
  unfold rng inr
  rw [re_ile, re_ile, re_ilt, re_nI (by decide), show (4 : Int32).toInt = 4 from rfl]
  constructor
  · intro h h2; exact h ⟨h2.1, by omega⟩
  · intro h h2; exact h ⟨h2.1, by omega⟩
theorem rng_b {x l m : Int32} (h : rng x l m) : l.toInt ≤ x.toInt ∧ x.toInt ≤ m.toInt := ⟨re_ile.mp h.1, re_ile.mp h.2⟩
theorem BD.up {n no nt t : Nat} {c : CC} (b : BD n no nt t c) (ht : t < 600) : BD n no nt (t + 1) c := BG.mono b (Nat.le_succ _) ht fun _ _ => Nat.le_refl _
theorem re_wth {n no nt t i : Nat} {c : CC} {m : MC} {r : Int32} (h : EQ n no nt c m) (b : BD n no nt t c) (hi : i < n) (hr : 0 ≤ r.toInt) (hr2 : r.toInt ≤ 1500) :
    f_X4_valueOf m i r = f_X0_worth c i (c.ti 3) r ∧ 0 ≤ (f_X0_worth c i (c.ti 3) r).toInt ∧ (f_X0_worth c i (c.ti 3) r).toInt ≤ 2000000000 := by
  obtain ⟨b0, b1, b2, b3, b4, b5, b6, b7, b8, b9, b10, b11, b12, b13, b14⟩ := b.at hi
  have hty := b.2.1
  have hg := gB_le (show ix (c.ti 3) ≤ 60 by rw [re_ix]; omega)
  exact re_worth (h.er hi) h.1.2.2.2.1 b9.1 b9.2.1 (by omega) b5.1 b5.2 hr hr2 b6.1 hty.1 hty.2 b6.2
theorem q_value {n no nt t : Nat} {c : CC} {m : MC} {k r : Int32} (h : EQ n no nt c m) (b : BD n no nt t c) :
    CJ [(3, 1), (1, 2)] (f_X3_value n c k r).1 ((f_X4_value n m k r).2.ti 0) (f_X4_value n m k r).1 ∧ EQ n no nt (f_X3_value n c k r).2 (f_X4_value n m k r).2 ∧ (f_X3_value n c k r).2 = c := by
  have hn := b.1.1
  unfold f_X3_value f_X4_value
  by_cases hk : inr k n
  · rw [if_pos hk, if_neg (fun e => (h.cl hn).mp e hk)]
    by_cases hr : rng r 0 1500
    · rw [if_pos hr, if_neg (fun e => re_in.mp e hr)]
      have hb := rng_b hr
      rw [(re_wth (r := r) h.p0 b (re_inl (by omega) hk) hb.1 hb.2).1]
      exact ⟨CJ.ok rfl, h.p0, rfl⟩
    · rw [if_neg hr, if_pos (re_in.mpr hr)]
      exact ⟨CJ.no 2 (by decide) rfl, h.p0, rfl⟩
  · rw [if_neg hk, if_pos ((h.cl hn).mpr hk)]
    exact ⟨CJ.no 1 (by decide) rfl, h.p0, rfl⟩
theorem q_offered {n no nt t : Nat} {c : CC} {m : MC} {k o r : Int32} (h : EQ n no nt c m) (b : BD n no nt t c) :
    CJ [(3, 1), (1, 2)] (f_X3_offered n no c k o r).1 ((f_X4_offered n no m k o r).2.ti 0) (f_X4_offered n no m k o r).1 ∧ EQ n no nt (f_X3_offered n no c k o r).2 (f_X4_offered n no m k o r).2 ∧ (f_X3_offered n no c k o r).2 = c := by
  have hn := b.1.1
  have hno := b.1.2.1
  unfold f_X3_offered f_X4_offered
  by_cases hk : inr k n
  · rw [if_pos hk, if_neg (fun e => (h.cl hn).mp e hk)]
    by_cases ho : inr o no
    · rw [if_pos ho, if_neg (fun e => (h.of hno).mp e ho)]
      by_cases hr : rng r 0 1500
      · rw [if_pos hr, if_neg (fun e => re_in.mp e hr)]
        have hb := rng_b hr
        have hi := re_inl (show n ≤ 600 by omega) hk
        have hj := re_inl (show no ≤ 600 by omega) ho
        have er := h.er hi
        obtain ⟨o1, o2, o3⟩ := h.ofr hj
        obtain ⟨p1, p2, p3⟩ := b.of hj
        obtain ⟨b0, b1, b2, b3, b4, b5, b6, b7, b8, b9, b10, b11, b12, b13, b14⟩ := b.at hi
        have hty := b.2.1
        have hg := gB_le (show ix (c.ti 3) ≤ 60 by rw [re_ix]; omega)
        rw [er.2.2.2.2.2.2.2.1]
        by_cases h8 : c.ci (ix k) 8 = 0
        · rw [if_neg (fun e => (re_open.mp e) h8), if_pos h8]
          obtain ⟨c1, c2, c3⟩ := re_cut (m := m.pti 0 0) er o1 b9.1 b9.2.1 (by omega) p1.1 p1.2
          have e1 : m.ti 1 = c.ti 3 := h.1.2.2.2.1
          have ey : (c.ti 3 + c.oi (ix o) 2).toInt = (c.ti 3).toInt + (c.oi (ix o) 2).toInt := re_iadd (by omega) (by omega)
          obtain ⟨v1, v2, v3⟩ := re_vby (m := m.pti 0 0) (r := r) (yr := c.ti 3) (du := c.ti 3 + c.oi (ix o) 2) c2 (by omega) p2.1 p2.2 hb.1 hb.2 e1 (by omega) (by omega) hty.1 (by omega) (by omega)
          rw [c1, o2, o3, e1, v1]
          have ed : c.ti 3 + c.oi (ix o) 2 - c.ti 3 = c.oi (ix o) 2 := by grind
          rw [ed]
          exact ⟨CJ.ok rfl, h.p0, rfl⟩
        · rw [if_pos (re_open.mpr h8), if_neg h8]
          exact ⟨CJ.ok rfl, h.p0, rfl⟩
      · rw [if_neg hr, if_pos (re_in.mpr hr)]
        exact ⟨CJ.no 2 (by decide) rfl, h.p0, rfl⟩
    · rw [if_neg ho, if_pos ((h.of hno).mpr ho)]
      exact ⟨CJ.no 1 (by decide) rfl, h.p0, rfl⟩
  · rw [if_neg hk, if_pos ((h.cl hn).mpr hk)]
    exact ⟨CJ.no 1 (by decide) rfl, h.p0, rfl⟩
theorem q_effort {n no nt t : Nat} {c : CC} {m : MC} {k : Int32} (h : EQ n no nt c m) (b : BD n no nt t c) :
    CI [(3, 1)] (f_X3_effort n c k).1 ((f_X4_effort m k).2.ti 0) (f_X4_effort m k).1 ∧ EQ n no nt (f_X3_effort n c k).2 (f_X4_effort m k).2 ∧ (f_X3_effort n c k).2 = c := by
  unfold f_X3_effort f_X4_effort
  by_cases hk : inr k 5
  · rw [if_pos hk, if_neg (fun e => re_kind.mp e hk), re_effk h.p0.2 b (re_inl (by decide) hk), re_nIix hk.1]
    exact ⟨CI.ok rfl, h.p0, rfl⟩
  · rw [if_neg hk, if_pos (re_kind.mpr hk)]
    exact ⟨CI.no 1 (by decide) rfl, h.p0, rfl⟩
theorem q_alike {n no nt t : Nat} {c : CC} {m : MC} (h : EQ n no nt c m) (b : BD n no nt t c) :
    (f_X4_areAlike m).1 = f_X3_areAlike n c ∧ EQ n no nt c (f_X4_areAlike m).2 := ⟨re_alike h.2 b 4 (Nat.le_refl _), h.p0⟩
theorem q_passes {n no nt t : Nat} {c : CC} {m : MC} {o s : Int32} (h : EQ n no nt c m) (b : BD n no nt t c) :
    CI [(3, 1)] (f_X3_passes n no c o s).1 ((f_X4_passes n no m o s).2.ti 0) (f_X4_passes n no m o s).1 ∧ EQ n no nt (f_X3_passes n no c o s).2 (f_X4_passes n no m o s).2 ∧ (f_X3_passes n no c o s).2 = c := by
  have hn := b.1.1
  have hno := b.1.2.1
  have hx : ∀ x : Int32, x = 0 ∨ x = 1 → ∀ {q : MC}, (if x = 0 then ((0 : Int32), q) else (1, q)) = (x, q) := by
    intro x hx q
    rcases hx with e | e
    · rw [e, if_pos rfl]
    · rw [e, if_neg (by decide)]
  unfold f_X3_passes f_X4_passes
  by_cases ho : inr o no
  · rw [if_pos ho, if_neg (fun e => (h.of hno).mp e ho)]
    have hj := re_inl (show no ≤ 600 by omega) ho
    rw [re_pas h.p0.1 hn hno hj]
    have hb : f_X3_arePooled n c (ix o) = 0 ∨ f_X3_arePooled n c (ix o) = 1 := by
      have : ∀ k, g_X3_arePooled n c (ix o) k = 0 ∨ g_X3_arePooled n c (ix o) k = 1 := by
        intro k
        cases k with
        | zero => exact re_majb
        | succ k =>
          unfold g_X3_arePooled
          repeat' split
          all_goals first | exact Or.inl rfl | exact Or.inr rfl
      exact this 4
    by_cases hs : s = -1
    · have hin : ¬ f_X4_isIn s (-1) 3 = 0 := by rw [hs]; decide
      rw [if_pos hs, if_pos hs, if_pos hs, if_neg hin, hx _ hb]
      refine ⟨?_, h.p0, rfl⟩
      generalize f_X3_arePooled n c (ix o) = z
      exact CI.ok rfl
    · rw [if_neg hs, if_neg hs, if_neg hs, hx _ re_majb]
      by_cases h0 : s < 0
      · rw [if_pos h0, if_pos]
        · exact ⟨CI.no 1 (by decide) rfl, h.p0, rfl⟩
        · rw [re_in]; unfold rng; rw [re_ilt, show (0 : Int32).toInt = 0 from rfl] at h0
          rw [re_ile, re_ile, show (-1 : Int32).toInt = -1 from rfl]
          have : ¬ s.toInt = -1 := fun e => hs (re_ieq.mpr e)
          omega
      · rw [if_neg h0]
        rw [re_ilt, show (0 : Int32).toInt = 0 from rfl] at h0
        by_cases h3 : s ≤ 3
        · have hin : ¬ f_X4_isIn s (-1) 3 = 0 := by
            rw [re_in]; unfold rng
            rw [re_ile, show (-1 : Int32).toInt = -1 from rfl]
            intro e; exact e ⟨by omega, h3⟩
          rw [if_pos h3, if_neg hin]
          refine ⟨?_, h.p0, rfl⟩
          generalize f_X3_hasMajority n c (ix o) s 75 = z
          exact CI.ok rfl
        · rw [if_neg h3, if_pos]
          · exact ⟨CI.no 1 (by decide) rfl, h.p0, rfl⟩
          · rw [re_in]; exact fun e => h3 e.2
  · rw [if_neg ho, if_pos ((h.of hno).mpr ho)]
    exact ⟨CI.no 1 (by decide) rfl, h.p0, rfl⟩
theorem q_bear {n no nt t : Nat} {c : CC} {m : MC} {y : Int32} (h : EQ n no nt c m) (b : BD n no nt t c) :
    CI [(1, 1)] (f_X3_isBearable n c y).1 ((f_X4_isBearable n m y).2.ti 0) (f_X4_isBearable n m y).1 ∧ EQ n no nt (f_X3_isBearable n c y).2 (f_X4_isBearable n m y).2 ∧ (f_X3_isBearable n c y).2 = c := by
  unfold f_X3_isBearable
  by_cases hy : rng y 1 30
  · obtain ⟨r1, r2, r3⟩ := re_bearable h.1 b hy
    rw [if_pos hy, r1, r2]
    exact ⟨CI.ok rfl, h.p0, rfl⟩
  · unfold f_X4_isBearable
    rw [if_neg hy, if_pos (re_in.mpr hy)]
    exact ⟨CI.no 1 (by decide) rfl, h.p0, rfl⟩
theorem q_ofClaim {n no nt t : Nat} {c : CC} {m : MC} {k q : Int32} (h : EQ n no nt c m) (b : BD n no nt t c) :
    CJ [(3, 1), (1, 2)] (f_X3_ofClaim n c k q).1 ((f_X4_ofClaim n m k q).2.ti 0) (f_X4_ofClaim n m k q).1 ∧ EQ n no nt (f_X3_ofClaim n c k q).2 (f_X4_ofClaim n m k q).2 ∧ (f_X3_ofClaim n c k q).2 = c := by
  have hn := b.1.1
  unfold f_X3_ofClaim f_X4_ofClaim
  by_cases hk : inr k n
  · rw [if_pos hk, if_neg (fun e => (h.cl hn).mp e hk)]
    obtain ⟨a0, a1, a2, a3, a4, a5, a6, a7, a8, a9, r0, r1, r2, r3⟩ := h.er (re_inl (show n ≤ 600 by omega) hk)
    rw [a6, a7, a8, a9, r0, r1, r2, r3]
    by_cases h0 : q = 0
    · subst h0; exact ⟨CJ.ok rfl, h.p0, rfl⟩
    by_cases h1 : q = 1
    · subst h1; exact ⟨CJ.ok rfl, h.p0, rfl⟩
    by_cases h2 : q = 2
    · subst h2; exact ⟨CJ.ok rfl, h.p0, rfl⟩
    by_cases h3 : q = 3
    · subst h3; exact ⟨CJ.ok rfl, h.p0, rfl⟩
    by_cases h4 : q = 4
    · subst h4; exact ⟨CJ.ok rfl, h.p0, rfl⟩
    by_cases h5 : q = 5
    · subst h5; exact ⟨CJ.ok rfl, h.p0, rfl⟩
    by_cases h6 : q = 6
    · subst h6; exact ⟨CJ.ok rfl, h.p0, rfl⟩
    by_cases h7 : q = 7
    · subst h7; exact ⟨CJ.ok rfl, h.p0, rfl⟩
    rw [if_neg h0, if_neg h1, if_neg h2, if_neg h3, if_neg h4, if_neg h5, if_neg h6, if_neg h7, if_pos]
    · exact ⟨CJ.no 2 (by decide) rfl, h.p0, rfl⟩
    · rw [re_in]; unfold rng
      rw [re_ile, re_ile, show (0 : Int32).toInt = 0 from rfl, show (7 : Int32).toInt = 7 from rfl]
      rw [re_ieq, show (0 : Int32).toInt = 0 from rfl] at h0
      rw [re_ieq, show (1 : Int32).toInt = 1 from rfl] at h1
      rw [re_ieq, show (2 : Int32).toInt = 2 from rfl] at h2
      rw [re_ieq, show (3 : Int32).toInt = 3 from rfl] at h3
      rw [re_ieq, show (4 : Int32).toInt = 4 from rfl] at h4
      rw [re_ieq, show (5 : Int32).toInt = 5 from rfl] at h5
      rw [re_ieq, show (6 : Int32).toInt = 6 from rfl] at h6
      rw [re_ieq, show (7 : Int32).toInt = 7 from rfl] at h7
      omega
  · rw [if_neg hk, if_pos ((h.cl hn).mpr hk)]
    exact ⟨CJ.no 1 (by decide) rfl, h.p0, rfl⟩
theorem q_paid {n no nt t : Nat} {c : CC} {m : MC} {k : Int32} (h : EQ n no nt c m) (b : BD n no nt t c) :
    CJ [(3, 1)] (f_X3_paidAnew n c k).1 ((f_X4_paidAnew n m k).2.ti 0) (f_X4_paidAnew n m k).1 ∧ EQ n no nt (f_X3_paidAnew n c k).2 (f_X4_paidAnew n m k).2 ∧ (f_X3_paidAnew n c k).2 = c := by
  have hn := b.1.1
  unfold f_X3_paidAnew f_X4_paidAnew
  by_cases hk : inr k n
  · have hi := re_inl (show n ≤ 600 by omega) hk
    obtain ⟨a0, a1, a2, a3, a4, a5, a6, a7, a8, a9, r0, r1, r2, r3⟩ := h.er hi
    rw [if_pos hk, if_neg (fun e => (h.cl hn).mp e hk), r3, BG.paid b hi]
    exact ⟨CJ.ok rfl, h.p0, rfl⟩
  · rw [if_neg hk, if_pos ((h.cl hn).mpr hk)]
    exact ⟨CJ.no 1 (by decide) rfl, h.p0, rfl⟩
theorem q_ofState {n no nt t : Nat} {c : CC} {m : MC} {q : Int32} (h : EQ n no nt c m) (b : BD n no nt t c) :
    CJ [(1, 1)] (f_X3_ofState n c q).1 ((f_X4_ofState n m q).2.ti 0) (f_X4_ofState n m q).1 ∧ EQ n no nt (f_X3_ofState n c q).2 (f_X4_ofState n m q).2 ∧ (f_X3_ofState n c q).2 = c := by
  obtain ⟨⟨e7, e23, e31, s1, s2, s3, s4, s5, s6, s7, s8, s9, er, nr, eo, ev, eg, ng, eb, ea⟩, hs⟩ := h
  have h : EQ n no nt c m := ⟨⟨e7, e23, e31, s1, s2, s3, s4, s5, s6, s7, s8, s9, er, nr, eo, ev, eg, ng, eb, ea⟩, hs⟩
  have hd : f_X4_debt n (m.pti 0 0) = f_X3_debt n c := re_debt (m := m.pti 0 0) er
  unfold f_X3_ofState f_X4_ofState
  rw [hd, s1, s2, s3, s9]
  by_cases h0 : q = 0
  · subst h0; exact ⟨CJ.ok rfl, h.p0, rfl⟩
  by_cases h1 : q = 1
  · subst h1; exact ⟨CJ.ok rfl, h.p0, rfl⟩
  by_cases h2 : q = 2
  · subst h2; exact ⟨CJ.ok rfl, h.p0, rfl⟩
  by_cases h3 : q = 3
  · subst h3; exact ⟨CJ.ok rfl, h.p0, rfl⟩
  by_cases h4 : q = 4
  · subst h4; exact ⟨CJ.ok rfl, h.p0, rfl⟩
  rw [if_neg h0, if_neg h1, if_neg h2, if_neg h3, if_neg h4, if_pos]
  · exact ⟨CJ.no 1 (by decide) rfl, h.p0, rfl⟩
  · rw [re_in]; unfold rng
    rw [re_ile, re_ile, show (0 : Int32).toInt = 0 from rfl, show (4 : Int32).toInt = 4 from rfl]
    rw [re_ieq, show (0 : Int32).toInt = 0 from rfl] at h0
    rw [re_ieq, show (1 : Int32).toInt = 1 from rfl] at h1
    rw [re_ieq, show (2 : Int32).toInt = 2 from rfl] at h2
    rw [re_ieq, show (3 : Int32).toInt = 3 from rfl] at h3
    rw [re_ieq, show (4 : Int32).toInt = 4 from rfl] at h4
    omega
