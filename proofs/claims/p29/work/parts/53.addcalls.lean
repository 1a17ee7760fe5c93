/-! THE RELATION, 16: claims come behind the others -/
theorem EQ0.add {n no nt i : Nat} {c c' : CC} {m m' : MC} (h : EQ0 n no nt c m) (hn : n < 40) (hti : ∀ k, k ≠ 13 → c'.ti k = c.ti k) (h36 : m'.ti 36 = c'.ti 13) (h7 : m'.ti 7 = nI (n + 1)) (hmt : ∀ k, k ≠ 0 → k ≠ 7 → k ≠ 36 → m'.ti k = m.ti k)
    (h5 : c'.tj 5 = c.tj 5) (h2 : m'.tj 2 = c'.tj 4) (h3 : m'.tj 3 = m.tj 3) (hcl : ∀ j, j ≠ n → j ≠ i → c'.ci j = c.ci j ∧ c'.cj j = c.cj j) (hoi : c'.oi = c.oi) (hoj : c'.oj = c.oj) (hgi : c'.gi = c.gi)
    (hm : ∀ f j, (f < 8 ∨ 21 < f) → f ≠ 28 → m'.ai f j = m.ai f j) (hm2 : ∀ f j, f ≤ 21 → j ≠ n → j ≠ i → m'.ai f j = m.ai f j ∧ m'.aj f j = m.aj f j) (hi : i ≤ n) (hen : ER (c'.ci n) (c'.cj n) m' n) (hei : i < n → ER (c'.ci i) (c'.cj i) m' i) : EQ0 (n + 1) no nt c' m' := by
  obtain ⟨e7, e23, e31, s1, s2, s3, s4, s5, s6, s7, s8, s9, er, nr, eo, ev, eg, ng, eb, ea⟩ := h
  have gx : ∀ f j, 21 < f → f ≠ 28 → m'.ai f j = m.ai f j := fun f j hf h28 => hm f j (Or.inr hf) h28
  refine ⟨h7, (hmt 23 (by decide) (by decide) (by decide)).trans e23, (hmt 31 (by decide) (by decide) (by decide)).trans e31, ?_, h2, ?_, ?_, ?_, ?_, ?_, ?_, h36, ?_, ?_, ?_, ?_, ?_, ?_, ?_, ?_⟩
  · rw [hmt 1 (by decide) (by decide) (by decide), hti 3 (by decide), s1]
  · rw [h3, h5, s3]
  · rw [hmt 4 (by decide) (by decide) (by decide), hti 6 (by decide), s4]
  · rw [hmt 5 (by decide) (by decide) (by decide), hti 7 (by decide), s5]
  · rw [hmt 6 (by decide) (by decide) (by decide), hti 8 (by decide), s6]
  · rw [hmt 34 (by decide) (by decide) (by decide), hti 11 (by decide), s7]
  · rw [hmt 35 (by decide) (by decide) (by decide), hti 12 (by decide), s8]
  · intro j hj
    by_cases e : j = n
    · rw [e]; exact hen
    · by_cases e2 : j = i
      · rw [e2]; exact hei (by omega)
      · obtain ⟨a0, a1, a2, a3, a4, a5, a6, a7, a8, a9, r0, r1, r2, r3⟩ := er j (by omega)
        have g := fun f hf => hm2 f j hf e e2
        rw [(hcl j e e2).1, (hcl j e e2).2]
        exact ⟨(g 8 (by decide)).1.trans a0, (g 9 (by decide)).1.trans a1, (g 13 (by decide)).1.trans a2, (g 14 (by decide)).1.trans a3, (g 15 (by decide)).1.trans a4, (g 11 (by decide)).1.trans a5, (g 12 (by decide)).1.trans a6, (g 16 (by decide)).1.trans a7, (g 20 (by decide)).1.trans a8, (g 21 (by decide)).1.trans a9, (g 10 (by decide)).2.trans r0, (g 17 (by decide)).2.trans r1, (g 18 (by decide)).2.trans r2, (g 19 (by decide)).2.trans r3⟩
  · intro j hj h40
    obtain ⟨a0, a1, a2, a3, a4, a5⟩ := nr j (by omega) h40
    have g := fun f hf => hm2 f j hf (by omega) (by omega)
    exact ⟨(g 15 (by decide)).1.trans a0, (g 16 (by decide)).1.trans a1, (g 20 (by decide)).1.trans a2, (g 17 (by decide)).2.trans a3, (g 18 (by decide)).2.trans a4, (g 19 (by decide)).2.trans a5⟩
  · intro j hj
    rw [gx 24 j (by decide) (by decide), gx 25 j (by decide) (by decide), gx 26 j (by decide) (by decide), hoi]; exact eo j hj
  · intro j k hj hk
    obtain ⟨v1, v2⟩ := ev j k hj hk
    rw [gx 27 _ (by decide) (by decide), hoj]
    exact ⟨v1, fun hh => v2 (by omega)⟩
  · intro j hj
    rw [gx 32 j (by decide) (by decide), gx 33 j (by decide) (by decide), hgi]; exact eg j hj
  · intro j hj h10
    rw [gx 33 j (by decide) (by decide)]; exact ng j hj h10
  · intro k hk
    rw [gx 22 k (by decide) (by decide), hti 9 (by decide)]; exact eb k hk
  · intro k hk
    rw [gx 37 k (by decide) (by decide), hti 10 (by decide)]; exact ea k hk
theorem ES.add {n : Nat} {c c' : CC} {m m' : MC} (h : ES n c m) (hcl : ∀ j, j ≠ n → c'.ci j = c.ci j ∧ c'.cj j = c.cj j) (h13 : c'.cj n 13 = 0) (h14 : c'.cj n 14 = 0) (h8 : ¬ c'.ci n 8 = 2) (h28 : m'.ai 28 = m.ai 28) (h29 : m'.aj 29 = m.aj 29) (h30 : m'.aj 30 = m.aj 30) : ES (n + 1) c' m' := by
  intro k hk
  rw [h28, h29, h30]
  obtain ⟨k1, k2, k3⟩ := h k hk
  have e1 : g_X3_effortOf c' (nI k) n = g_X3_effortOf c (nI k) n := re_eff_cg fun i hi => by rw [(hcl i (by omega)).1, (hcl i (by omega)).2]; exact ⟨rfl, rfl, rfl⟩
  have e2 : g_X3_wasSwapped c' (nI k) n = g_X3_wasSwapped c (nI k) n := re_was_cg fun i hi => by rw [(hcl i (by omega)).1]; exact ⟨rfl, Iff.rfl⟩
  have e3 : g_X3_effortOf c' (nI k) (n + 1) = g_X3_effortOf c (nI k) n := by
    show (if c'.ci n 0 = nI k then (((g_X3_effortOf c' (nI k) n).1) + (c'.cj n 13), ((g_X3_effortOf c' (nI k) n).2) + (c'.cj n 14)) else ((g_X3_effortOf c' (nI k) n).1, (g_X3_effortOf c' (nI k) n).2)) = _
    rw [e1, h13, h14, Int64.add_zero, Int64.add_zero, ite_self]
  have e4 : g_X3_wasSwapped c' (nI k) (n + 1) = 0 ↔ g_X3_wasSwapped c (nI k) n = 0 := by
    show (if g_X3_wasSwapped c' (nI k) n = 0 then (if c'.ci n 0 = nI k then (if c'.ci n 8 = 2 then (1 : Int32) else 0) else 0) else 1) = 0 ↔ _
    rw [e2]
    by_cases e : g_X3_wasSwapped c (nI k) n = 0
    · simp [e, h8]
    · simp [e]
  rw [e3]
  exact ⟨k1, k2, k3.trans e4.symm⟩
theorem BG.add {n no nt t i : Nat} {c c' : CC} (b : BD n no nt t c) (hn : n < 40) (hti : ∀ k, k ≠ 13 → c'.ti k = c.ti k) (h13 : c'.ti 13 = c.ti 13 ∨ ¬ c.ti 13 = 0) (h5 : c'.tj 5 = c.tj 5)
    (hcl : ∀ j, j ≠ n → j ≠ i → c'.ci j = c.ci j ∧ c'.cj j = c.cj j ∧ c'.pay j = c.pay j) (hoi : c'.oi = c.oi) (hgi : c'.gi = c.gi)
    (hbn : BC t (szd c.gi nt) (ix (c.ti 3)) (c.ti 3).toInt (c'.ci n) (c'.cj n) (c'.pay n)) (hbi : i < n → BC t (szd c.gi nt) (ix (c.ti 3)) (c.ti 3).toInt (c'.ci i) (c'.cj i) (c'.pay i)) : BD (n + 1) no nt t c' := by
  obtain ⟨b0, b1, b2, b3, b4, b5, b6, b7, b8, b9, b10, b11⟩ := b
  have t3 := hti 3 (by decide)
  refine ⟨⟨by omega, b0.2⟩, by rw [t3]; exact b1, by rw [hti 6 (by decide)]; exact b2, by rw [hti 7 (by decide)]; exact b3, by rw [hti 8 (by decide)]; exact b4, by rw [hti 9 (by decide)]; exact b5, by rw [hti 10 (by decide)]; exact b6, ?_, by rw [t3, h5]; exact b8, ?_, by rw [hoi]; exact b10, by rw [hgi]; exact b11⟩
  · rw [hti 11 (by decide)]
    refine ⟨b7.1, b7.2.1, ?_⟩
    rcases h13 with e | e
    · rw [e]; exact b7.2.2
    · rcases b7.2.2 with e2 | e2
      · exact absurd e2 e
      · exact Or.inr e2
  · intro j hj
    rw [hgi, t3]
    by_cases e : j = n
    · rw [e]; exact hbn
    · by_cases e2 : j = i
      · rw [e2]; exact hbi (by omega)
      · rw [(hcl j e e2).1, (hcl j e e2).2.1, (hcl j e e2).2.2]; exact b9 j (by omega)
theorem psm_0 : ∀ k, psm (fun _ => 0) k = 0
  | 0 => rfl
  | k + 1 => by unfold psm; rw [psm_0 k]; rfl
/-- a new claim, as the class has it -/
theorem nw_ci {n : Nat} {c : CC} {kd ld rk sr hd : Int32} {p : Int64} {q d : Int32} : (f_X0_setTerms (c.newc n (clI kd ld rk sr hd) (fun _ => 0)) n p q d).ci n = fun j => if j = 7 then d else if j = 6 then q else clI kd ld rk sr hd j := by
  show up2 (up2 (upr c.ci n (clI kd ld rk sr hd)) n 6 q) n 7 d n = _
  rw [re_ups, re_ups]
  unfold upr; rw [if_pos rfl]
theorem nw_cj {n : Nat} {c : CC} {kd ld rk sr hd : Int32} {p : Int64} {q d : Int32} : (f_X0_setTerms (c.newc n (clI kd ld rk sr hd) (fun _ => 0)) n p q d).cj n = fun j => if j = 5 then p else 0 := by
  show up2 (upr c.cj n (fun _ => 0)) n 5 p n = _
  rw [re_ups]
  unfold upr; rw [if_pos rfl]
theorem nw_pay {n : Nat} {c : CC} {kd ld rk sr hd : Int32} {p : Int64} {q d : Int32} : (f_X0_setTerms (c.newc n (clI kd ld rk sr hd) (fun _ => 0)) n p q d).pay n = fun _ => 0 := by
  show upr c.pay n (fun _ => 0) n = _
  unfold upr; rw [if_pos rfl]
theorem nw_ne {n j : Nat} {c : CC} {kd ld rk sr hd : Int32} {p : Int64} {q d : Int32} (h : j ≠ n) : (f_X0_setTerms (c.newc n (clI kd ld rk sr hd) (fun _ => 0)) n p q d).ci j = c.ci j ∧ (f_X0_setTerms (c.newc n (clI kd ld rk sr hd) (fun _ => 0)) n p q d).cj j = c.cj j ∧ (f_X0_setTerms (c.newc n (clI kd ld rk sr hd) (fun _ => 0)) n p q d).pay j = c.pay j := by
  refine ⟨?_, ?_, ?_⟩
  · show up2 (up2 (upr c.ci n (clI kd ld rk sr hd)) n 6 q) n 7 d j = _
    rw [re_up h, re_up h]; unfold upr; rw [if_neg h]
  · show up2 (upr c.cj n (fun _ => 0)) n 5 p j = _
    rw [re_up h]; unfold upr; rw [if_neg h]
  · show upr c.pay n (fun _ => 0) j = _
    unfold upr; rw [if_neg h]
theorem nw_bc {t s y : Nat} {yr : Int} {kd ld rk sr hd : Int32} {P A : Int64} {q d k : Int32} {B F : Int64} (h0 : 0 ≤ kd.toInt ∧ kd.toInt ≤ 4) (h1 : 0 ≤ ld.toInt ∧ ld.toInt ≤ 7) (h2 : 0 ≤ rk.toInt ∧ rk.toInt ≤ 2) (h3 : (-1 ≤ sr.toInt ∧ sr.toInt ≤ 3) ∧ (kd = 1 → 0 ≤ sr.toInt)) (h4 : hd = 0 ∨ hd = 1)
    (hq : 0 ≤ q.toInt ∧ q.toInt ≤ 1000) (hd7 : 0 ≤ d.toInt ∧ d.toInt ≤ yr + 30) (hP : 0 ≤ P.toInt ∧ P.toInt ≤ gB y) (hA : 0 ≤ A.toInt ∧ A.toInt ≤ 1000000 * t) (hB : 0 ≤ B.toInt ∧ B.toInt ≤ 2000000000) (hF : 0 ≤ F.toInt ∧ F.toInt ≤ 2000000000)
    {x : Nat → Int32} {z p : Nat → Int64} (x0 : x 0 = kd) (x1 : x 1 = ld) (x2 : x 2 = rk) (x3 : x 3 = sr) (x4 : x 4 = hd) (x6 : x 6 = q) (x7 : x 7 = d) (x8 : x 8 = 0) (x17 : x 17 = 0) (z5 : z 5 = P) (z9 : z 9 = 0) (z10 : z 10 = A) (z13 : z 13 = B) (z14 : z 14 = F) (z15 : z 15 = 0) (hp : p = fun _ => 0) : BC t s y yr x z p := by
  have w0 : (0 : Int64).toInt = 0 := rfl
  have v0 : (0 : Int32).toInt = 0 := rfl
  unfold BC
  rw [x0, x1, x2, x3, x4, x6, x7, x8, x17, z5, z9, z10, z13, z14, z15, hp, w0, v0]
  exact ⟨h0, h1, h2, h3, h4, hq, hd7, Or.inl rfl, ⟨Int.le_refl _, by omega⟩, ⟨hP.1, Int.le_refl _, by omega⟩, hA, hB, hF, fun _ _ => rfl, psm_0 70⟩
theorem re_room {n : Nat} (hn : n ≤ 40) : ((nI n + 1 : Int32) ≤ 40 ↔ n < 40) ∧ (nI n = 40 ↔ n = 40) := by
  obtain ⟨c1, c2⟩ := re_cnt (n := n) (by omega)
  rw [c2, re_ile, re_nI (by omega), show (40 : Int32) = nI 40 from rfl, re_nIinj (by omega) (by omega), re_nI (by omega)]
  exact ⟨by omega, Iff.rfl⟩
theorem q_claim {n no nt t : Nat} {c : CC} {m : MC} {kd ld p q y rk sr z : Int32} (hz : z = 0 ∨ z = 1) (h : EQ n no nt c m) (b : BD n no nt t c) :
    CI [(1, 1), (2, 2)] (f_X3_claim n c kd ld p q y rk sr z).1 ((f_X4_claim n m kd ld p q y rk sr z).2.ti 0) (f_X4_claim n m kd ld p q y rk sr z).1 ∧ EQ (f_X3_claim n c kd ld p q y rk sr z).2.1 no nt (f_X3_claim n c kd ld p q y rk sr z).2.2 (f_X4_claim n m kd ld p q y rk sr z).2 ∧
    BD (f_X3_claim n c kd ld p q y rk sr z).2.1 no nt t (f_X3_claim n c kd ld p q y rk sr z).2.2 := by
  have hn := b.1.1
  obtain ⟨k1, k2⟩ := re_room hn
  obtain ⟨c1, c2⟩ := re_cnt (n := n) (by omega)
  have hty := b.2.1
  have key : n < 40 → rng kd 0 4 → rng ld 0 7 → rng p 1 1000000 → rng q 0 1000 → rng y 1 30 → rng rk 0 2 → (-1 ≤ sr.toInt ∧ sr.toInt ≤ 3) ∧ (kd = 1 → 0 ≤ sr.toInt) →
      EQ (n + 1) no nt (f_X0_setTerms (c.newc n (clI kd ld rk sr z) (fun _ => 0)) n p.toInt64 q (c.ti 3 + y)) ((((f_X4_adds n (m.pti 0 0) kd ld p.toInt64 q y).2.pai 13 n rk).pai 14 n sr).pai 15 n z) ∧ BD (n + 1) no nt t (f_X0_setTerms (c.newc n (clI kd ld rk sr z) (fun _ => 0)) n p.toInt64 q (c.ti 3 + y)) := by
    intro h40 g0 g1 g2 g3 g4 g5 g6
    obtain ⟨i15, i16, i20, j17, j18, j19⟩ := h.1.2.2.2.2.2.2.2.2.2.2.2.2.2.1 n (Nat.le_refl _) h40
    have p2 := rng_b g2
    have p4 := rng_b g4
    rw [show (1 : Int32).toInt = 1 from rfl, show (1000000 : Int32).toInt = 1000000 from rfl] at p2
    rw [show (1 : Int32).toInt = 1 from rfl, show (30 : Int32).toInt = 30 from rfl] at p4
    have ey : (c.ti 3 + y).toInt = (c.ti 3).toInt + y.toInt := re_iadd (by omega) (by omega)
    have hg : 1000000 ≤ gB (ix (c.ti 3)) := gB_mono (Nat.zero_le _)
    have e1 : m.ti 1 = c.ti 3 := h.1.2.2.2.1
    refine ⟨⟨h.1.add (i := n) h40 (fun _ _ => rfl) h.1.2.2.2.2.2.2.2.2.2.2.2.1 ?_ ?_ rfl h.1.2.2.2.2.1 rfl (fun j hj _ => ⟨(nw_ne hj).1, (nw_ne hj).2.1⟩) rfl rfl rfl ?_ ?_ (Nat.le_refl _) ?_ (fun e => absurd e (Nat.lt_irrefl _)), h.2.add (fun j hj => ⟨(nw_ne hj).1, (nw_ne hj).2.1⟩) ?_ ?_ ?_ rfl rfl rfl⟩, BG.add (i := n) b h40 (fun _ _ => rfl) (Or.inl rfl) rfl (fun j hj _ => nw_ne hj) rfl rfl ?_ (fun e => absurd e (Nat.lt_irrefl _))⟩
    · show m.ti 7 + 1 = nI (n + 1)
      rw [h.1.1, c2]
    · intro k h0 h7 h36
      show (if k = 7 then _ else (if k = 0 then _ else m.ti k)) = m.ti k
      rw [if_neg h7, if_neg h0]
    · intro f j hf h28
      show up2 (up2 (up2 (up2 (up2 (up2 (up2 (up2 (up2 m.ai 8 n kd) 9 n ld) 11 n q) 12 n (m.ti 1 + y)) 14 n (-1)) 21 n (-1)) 13 n rk) 14 n sr) 15 n z f j = m.ai f j
      rw [re_up (by omega), re_up (by omega), re_up (by omega), re_up (by omega), re_up (by omega), re_up (by omega), re_up (by omega), re_up (by omega), re_up (by omega)]
    · intro f j hf hj _
      constructor
      · show up2 (up2 (up2 (up2 (up2 (up2 (up2 (up2 (up2 m.ai 8 n kd) 9 n ld) 11 n q) 12 n (m.ti 1 + y)) 14 n (-1)) 21 n (-1)) 13 n rk) 14 n sr) 15 n z f j = m.ai f j
        rw [re_upk hj, re_upk hj, re_upk hj, re_upk hj, re_upk hj, re_upk hj, re_upk hj, re_upk hj, re_upk hj]
      · show up2 m.aj 10 n p.toInt64 f j = m.aj f j
        rw [re_upk hj]
    · rw [nw_ci, nw_cj]
      unfold ER
      refine ⟨?_, ?_, ?_, ?_, ?_, ?_, ?_, ?_, ?_, ?_, ?_, ?_, ?_, ?_⟩
      · show up2 (up2 (up2 (up2 (up2 (up2 (up2 (up2 (up2 m.ai 8 n kd) 9 n ld) 11 n q) 12 n (m.ti 1 + y)) 14 n (-1)) 21 n (-1)) 13 n rk) 14 n sr) 15 n z 8 n = kd
        rw [re_up (by decide), re_up (by decide), re_up (by decide), re_up (by decide), re_up (by decide), re_up (by decide), re_up (by decide), re_up (by decide), re_up1]
      · show up2 (up2 (up2 (up2 (up2 (up2 (up2 (up2 (up2 m.ai 8 n kd) 9 n ld) 11 n q) 12 n (m.ti 1 + y)) 14 n (-1)) 21 n (-1)) 13 n rk) 14 n sr) 15 n z 9 n = ld
        rw [re_up (by decide), re_up (by decide), re_up (by decide), re_up (by decide), re_up (by decide), re_up (by decide), re_up (by decide), re_up1]
      · show up2 (up2 (up2 (up2 (up2 (up2 (up2 (up2 (up2 m.ai 8 n kd) 9 n ld) 11 n q) 12 n (m.ti 1 + y)) 14 n (-1)) 21 n (-1)) 13 n rk) 14 n sr) 15 n z 13 n = rk
        rw [re_up (by decide), re_up (by decide), re_up1]
      · show up2 (up2 (up2 (up2 (up2 (up2 (up2 (up2 (up2 m.ai 8 n kd) 9 n ld) 11 n q) 12 n (m.ti 1 + y)) 14 n (-1)) 21 n (-1)) 13 n rk) 14 n sr) 15 n z 14 n = sr
        rw [re_up (by decide), re_up1]
      · show up2 (up2 (up2 (up2 (up2 (up2 (up2 (up2 (up2 m.ai 8 n kd) 9 n ld) 11 n q) 12 n (m.ti 1 + y)) 14 n (-1)) 21 n (-1)) 13 n rk) 14 n sr) 15 n z 15 n = z
        rw [re_up1]
      · show up2 (up2 (up2 (up2 (up2 (up2 (up2 (up2 (up2 m.ai 8 n kd) 9 n ld) 11 n q) 12 n (m.ti 1 + y)) 14 n (-1)) 21 n (-1)) 13 n rk) 14 n sr) 15 n z 11 n = q
        rw [re_up (by decide), re_up (by decide), re_up (by decide), re_up (by decide), re_up (by decide), re_up (by decide), re_up1]
      · show up2 (up2 (up2 (up2 (up2 (up2 (up2 (up2 (up2 m.ai 8 n kd) 9 n ld) 11 n q) 12 n (m.ti 1 + y)) 14 n (-1)) 21 n (-1)) 13 n rk) 14 n sr) 15 n z 12 n = c.ti 3 + y
        rw [re_up (by decide), re_up (by decide), re_up (by decide), re_up (by decide), re_up (by decide), re_up1, e1]
      · show up2 (up2 (up2 (up2 (up2 (up2 (up2 (up2 (up2 m.ai 8 n kd) 9 n ld) 11 n q) 12 n (m.ti 1 + y)) 14 n (-1)) 21 n (-1)) 13 n rk) 14 n sr) 15 n z 16 n = 0
        rw [re_up (by decide), re_up (by decide), re_up (by decide), re_up (by decide), re_up (by decide), re_up (by decide), re_up (by decide), re_up (by decide), re_up (by decide)]; exact i16
      · show up2 (up2 (up2 (up2 (up2 (up2 (up2 (up2 (up2 m.ai 8 n kd) 9 n ld) 11 n q) 12 n (m.ti 1 + y)) 14 n (-1)) 21 n (-1)) 13 n rk) 14 n sr) 15 n z 20 n = 0
        rw [re_up (by decide), re_up (by decide), re_up (by decide), re_up (by decide), re_up (by decide), re_up (by decide), re_up (by decide), re_up (by decide), re_up (by decide)]; exact i20
      · show up2 (up2 (up2 (up2 (up2 (up2 (up2 (up2 (up2 m.ai 8 n kd) 9 n ld) 11 n q) 12 n (m.ti 1 + y)) 14 n (-1)) 21 n (-1)) 13 n rk) 14 n sr) 15 n z 21 n = -1
        rw [re_up (by decide), re_up (by decide), re_up (by decide), re_up1]
      · show up2 m.aj 10 n p.toInt64 10 n = p.toInt64
        exact re_up1
      · show up2 m.aj 10 n p.toInt64 17 n = 0
        rw [re_up (by decide)]; exact j17
      · show up2 m.aj 10 n p.toInt64 18 n = 0
        rw [re_up (by decide)]; exact j18
      · show up2 m.aj 10 n p.toInt64 19 n = 0
        rw [re_up (by decide)]; exact j19
    · rw [nw_cj]; rfl
    · rw [nw_cj]; rfl
    · rw [nw_ci]; show ¬ (0 : Int32) = 2; decide
    · rw [nw_ci, nw_cj, nw_pay]
      refine nw_bc (P := p.toInt64) (A := 0) (B := 0) (F := 0) (kd := kd) (ld := ld) (rk := rk) (sr := sr) (hd := z) (q := q) (d := c.ti 3 + y) (k := 0) (rng_b g0) (rng_b g1) (rng_b g5) g6 hz (rng_b g3) (by rw [ey]; omega) (by rw [re_w]; omega) ⟨Int.le_refl _, by rw [show (0 : Int64).toInt = 0 from rfl]; omega⟩ (by decide) (by decide) rfl rfl rfl rfl rfl rfl rfl rfl rfl rfl rfl rfl rfl rfl rfl rfl
  unfold f_X3_claim f_X4_claim
  by_cases g0 : rng kd 0 4
  · rw [if_pos g0, if_neg (show ¬ f_X4_isKind kd = 0 from fun e => re_in.mp e g0)]
    by_cases g1 : rng ld 0 7
    · rw [if_pos g1, if_neg (fun e => re_in.mp e g1)]
      by_cases g2 : rng p 1 1000000
      · rw [if_pos g2, if_neg (fun e => re_in.mp e g2)]
        by_cases g3 : rng q 0 1000
        · rw [if_pos g3, if_neg (fun e => re_in.mp e g3)]
          by_cases g4 : rng y 1 30
          · rw [if_pos g4, if_neg (fun e => re_in.mp e g4)]
            by_cases g5 : rng rk 0 2
            · rw [if_pos g5, if_neg (fun e => re_in.mp e g5), h.1.1]
              by_cases gk : kd = 1
              · rw [if_pos gk, if_pos gk, if_pos gk]
                by_cases g6 : rng sr 0 3
                · rw [if_pos g6, if_neg (fun e => re_in.mp e g6)]
                  by_cases g7 : n < 40
                  · have p6 := rng_b g6
                    rw [show (0 : Int32).toInt = 0 from rfl, show (3 : Int32).toInt = 3 from rfl] at p6
                    rw [if_pos (k1.mpr g7), if_neg (fun e => by have := k2.mp e; omega)]
                    obtain ⟨E, B⟩ := key g7 g0 g1 g2 g3 g4 g5 ⟨⟨by omega, p6.2⟩, fun _ => p6.1⟩
                    refine ⟨?_, E, B⟩
                    show CI _ (.inl (some (.int (nI (n + 1) - 1)))) 0 (m.ti 7)
                    rw [c1, h.1.1]
                    exact CI.ok rfl
                  · rw [if_neg (fun e => g7 (k1.mp e)), if_pos (k2.mpr (by omega))]
                    exact ⟨CI.no 2 (by decide) rfl, h.p0, b⟩
                · rw [if_neg g6, if_pos (re_in.mpr g6)]
                  exact ⟨CI.no 1 (by decide) rfl, h.p0, b⟩
              · rw [if_neg gk, if_neg gk, if_neg gk]
                have gs : rng sr (-1) (-1) ↔ sr = -1 := by
                  unfold rng
                  rw [re_ile, re_ile, re_ieq]; omega
                by_cases g6 : sr = -1
                · rw [if_pos (gs.mpr g6), if_pos g6]
                  by_cases g7 : n < 40
                  · have p6 : sr.toInt = -1 := by rw [g6]; rfl
                    rw [if_pos (k1.mpr g7), if_neg (fun e => by have := k2.mp e; omega)]
                    obtain ⟨E, B⟩ := key g7 g0 g1 g2 g3 g4 g5 ⟨⟨by omega, by omega⟩, fun e => absurd e gk⟩
                    refine ⟨?_, E, B⟩
                    show CI _ (.inl (some (.int (nI (n + 1) - 1)))) 0 (m.ti 7)
                    rw [c1, h.1.1]
                    exact CI.ok rfl
                  · rw [if_neg (fun e => g7 (k1.mp e)), if_pos (k2.mpr (by omega))]
                    exact ⟨CI.no 2 (by decide) rfl, h.p0, b⟩
                · rw [if_neg (fun e => g6 (gs.mp e)), if_neg g6]
                  exact ⟨CI.no 1 (by decide) rfl, h.p0, b⟩
            · rw [if_neg g5, if_pos (re_in.mpr g5)]
              exact ⟨CI.no 1 (by decide) rfl, h.p0, b⟩
          · rw [if_neg g4, if_pos (re_in.mpr g4)]
            exact ⟨CI.no 1 (by decide) rfl, h.p0, b⟩
        · rw [if_neg g3, if_pos (re_in.mpr g3)]
          exact ⟨CI.no 1 (by decide) rfl, h.p0, b⟩
      · rw [if_neg g2, if_pos (re_in.mpr g2)]
        exact ⟨CI.no 1 (by decide) rfl, h.p0, b⟩
    · rw [if_neg g1, if_pos (re_in.mpr g1)]
      exact ⟨CI.no 1 (by decide) rfl, h.p0, b⟩
  · rw [if_neg g0, if_pos (show f_X4_isKind kd = 0 from re_in.mpr g0)]
    exact ⟨CI.no 1 (by decide) rfl, h.p0, b⟩
