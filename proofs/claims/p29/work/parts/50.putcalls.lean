/-! THE RELATION, 13: calls that put a number -/
theorem q_economy {n no nt t : Nat} {c : CC} {m : MC} {g u x : Int32} (h : EQ n no nt c m) (b : BD n no nt t c) :
    CJ [(1, 1)] (f_X3_economy c g u x).1 ((f_X4_economy m g u x).2.ti 0) (f_X4_economy m g u x).1 ∧ EQ n no nt (f_X3_economy c g u x).2 (f_X4_economy m g u x).2 ∧ BD n no nt t (f_X3_economy c g u x).2 := by
  unfold f_X3_economy f_X4_economy
  by_cases h1 : rng g (-1000) 1000
  · rw [if_pos h1, if_neg (fun e => re_in.mp e h1)]
    by_cases h2 : rng u (-200) 200
    · rw [if_pos h2, if_neg (fun e => re_in.mp e h2)]
      by_cases h3 : rng x 0 10000000
      · rw [if_pos h3, if_neg (fun e => re_in.mp e h3)]
        obtain ⟨⟨e7, e23, e31, s1, s2, s3, s4, s5, s6, s7, s8, s9, er, nr, eo, ev, eg, ng, eb, ea⟩, hs⟩ := h
        obtain ⟨b0, b1, b2, b3, b4, b5, b6, b7, b8, b9, b10, b11⟩ := b
        rw [s2]
        exact ⟨CJ.ok rfl, ⟨⟨e7, e23, e31, s1, rfl, s3, rfl, rfl, s6, s7, s8, s9, er, nr, eo, ev, eg, ng, eb, ea⟩, hs.cg rfl rfl rfl rfl rfl⟩, ⟨b0, b1, rng_b h1, rng_b h2, b4, b5, b6, b7, b8, b9, b10, b11⟩⟩
      · rw [if_neg h3, if_pos (re_in.mpr h3)]
        exact ⟨CJ.no 1 (by decide) rfl, h.p0, b⟩
    · rw [if_neg h2, if_pos (re_in.mpr h2)]
      exact ⟨CJ.no 1 (by decide) rfl, h.p0, b⟩
  · rw [if_neg h1, if_pos (re_in.mpr h1)]
    exact ⟨CJ.no 1 (by decide) rfl, h.p0, b⟩
theorem q_discount {n no nt t : Nat} {c : CC} {m : MC} {r : Int32} (h : EQ n no nt c m) (b : BD n no nt t c) :
    CI [(1, 1)] (f_X3_discount c r).1 ((f_X4_discount m r).2.ti 0) (f_X4_discount m r).1 ∧ EQ n no nt (f_X3_discount c r).2 (f_X4_discount m r).2 ∧ BD n no nt t (f_X3_discount c r).2 := by
  unfold f_X3_discount f_X4_discount
  by_cases h1 : rng r 0 1500
  · rw [if_pos h1, if_neg (fun e => re_in.mp e h1)]
    obtain ⟨⟨e7, e23, e31, s1, s2, s3, s4, s5, s6, s7, s8, s9, er, nr, eo, ev, eg, ng, eb, ea⟩, hs⟩ := h
    obtain ⟨b0, b1, b2, b3, b4, b5, b6, b7, b8, b9, b10, b11⟩ := b
    rw [s6]
    exact ⟨CI.ok rfl, ⟨⟨e7, e23, e31, s1, s2, s3, s4, s5, rfl, s7, s8, s9, er, nr, eo, ev, eg, ng, eb, ea⟩, hs.cg rfl rfl rfl rfl rfl⟩, ⟨b0, b1, b2, b3, rng_b h1, b5, b6, b7, b8, b9, b10, b11⟩⟩
  · rw [if_neg h1, if_pos (re_in.mpr h1)]
    exact ⟨CI.no 1 (by decide) rfl, h.p0, b⟩
theorem q_programme {n no nt t : Nat} {c : CC} {m : MC} {a u r : Int32} (h : EQ n no nt c m) (b : BD n no nt t c) :
    CV [(1, 1)] (f_X3_programme c a u r).1 ((f_X4_programme m a u r).ti 0) ∧ EQ n no nt (f_X3_programme c a u r).2 (f_X4_programme m a u r) ∧ BD n no nt t (f_X3_programme c a u r).2 := by
  unfold f_X3_programme f_X4_programme
  by_cases h1 : rng a 1 1000000
  · rw [if_pos h1, if_neg (fun e => re_in.mp e h1)]
    by_cases h2 : rng u (-200) 200
    · rw [if_pos h2, if_neg (fun e => re_in.mp e h2)]
      by_cases h3 : rng r 1 10
      · rw [if_pos h3, if_neg (fun e => re_in.mp e h3)]
        obtain ⟨⟨e7, e23, e31, s1, s2, s3, s4, s5, s6, s7, s8, s9, er, nr, eo, ev, eg, ng, eb, ea⟩, hs⟩ := h
        obtain ⟨b0, b1, b2, b3, b4, b5, b6, b7, b8, b9, b10, b11⟩ := b
        have h1' := rng_b h1
        have l1 : (1 : Int32).toInt = 1 := rfl
        have l2 : (1000000 : Int32).toInt = 1000000 := rfl
        refine ⟨CV.ok rfl, ⟨⟨e7, e23, e31, s1, s2, s3, s4, s5, s6, rfl, rfl, rfl, er, nr, eo, ev, eg, ng, eb, ea⟩, hs.cg rfl rfl rfl rfl rfl⟩, ⟨b0, b1, b2, b3, b4, b5, b6, ?_, b8, b9, b10, b11⟩⟩
        show 0 ≤ a.toInt ∧ a.toInt ≤ 1000000 ∧ (r = 0 ∨ 1 ≤ a.toInt)
        rw [l1, l2] at h1'
        exact ⟨by omega, h1'.2, Or.inr h1'.1⟩
      · rw [if_neg h3, if_pos (re_in.mpr h3)]
        exact ⟨CV.no 1 (by decide) rfl, h.p0, b⟩
    · rw [if_neg h2, if_pos (re_in.mpr h2)]
      exact ⟨CV.no 1 (by decide) rfl, h.p0, b⟩
  · rw [if_neg h1, if_pos (re_in.mpr h1)]
    exact ⟨CV.no 1 (by decide) rfl, h.p0, b⟩
theorem q_moratorium {n no nt t : Nat} {c : CC} {m : MC} {k z : Int32} (hz : z = 0 ∨ z = 1) (h : EQ n no nt c m) (b : BD n no nt t c) :
    CI [(3, 1)] (f_X3_moratorium c k z).1 ((f_X4_moratorium m k z).2.ti 0) (f_X4_moratorium m k z).1 ∧ EQ n no nt (f_X3_moratorium c k z).2 (f_X4_moratorium m k z).2 ∧ BD n no nt t (f_X3_moratorium c k z).2 := by
  unfold f_X3_moratorium f_X4_moratorium
  by_cases hk : inr k 5
  · rw [if_pos hk, if_neg (fun e => re_kind.mp e hk)]
    obtain ⟨⟨e7, e23, e31, s1, s2, s3, s4, s5, s6, s7, s8, s9, er, nr, eo, ev, eg, ng, eb, ea⟩, hs⟩ := h
    obtain ⟨b0, b1, b2, b3, b4, b5, b6, b7, b8, b9, b10, b11⟩ := b
    have hi := re_inl (show (5 : Nat) ≤ 600 by decide) hk
    obtain ⟨q, q1, q2⟩ := b5
    have ek : nI (ix k) = k := re_nIix hk.1
    obtain ⟨t1, t2⟩ := bit_set (show q < 256 by omega) (show ix k < 8 by omega) hz
    obtain ⟨q', u1, u2⟩ := bit_in5 q1 hi hz
    rw [ek] at t1 t2 u2
    rw [← q2] at t1 t2 u2
    have e1 : m.ai 22 (ix k) = f_X3_hasBit (c.ti 9).toInt64 k := by rw [eb _ hi, ek]
    have E : EQ n no nt (c.pti 9 (f_X3_withBit (c.ti 9) k z)) ((m.pti 0 0).pai 22 (ix k) z) := by
      refine ⟨⟨e7, e23, e31, s1, s2, s3, s4, s5, s6, s7, s8, s9, er, nr, eo, ev, eg, ng, fun j hj => ?_, ea⟩, hs.cg rfl rfl rfl rfl rfl⟩
      show up2 m.ai 22 (ix k) z 22 j = f_X3_hasBit (f_X3_withBit (c.ti 9) k z).toInt64 (nI j)
      rw [t1 j (by omega), re_ups]
      by_cases e : j = ix k
      · rw [if_pos e]; exact if_pos e
      · rw [if_neg e]; exact (if_neg e).trans (eb j hj)
    have B : BD n no nt t (c.pti 9 (f_X3_withBit (c.ti 9) k z)) := ⟨b0, b1, b2, b3, b4, ⟨q', u1, u2⟩, b6, b7, b8, b9, b10, b11⟩
    rw [e1]
    by_cases hc : f_X3_hasBit (c.ti 9).toInt64 k = z
    · rw [if_pos hc, if_pos (t2.mpr (by rw [← hc]))]
      exact ⟨CI.ok rfl, E, B⟩
    · rw [if_neg hc, if_neg (fun e => hc (t2.mp e))]
      exact ⟨CI.ok rfl, E, B⟩
  · rw [if_neg hk, if_pos (re_kind.mpr hk)]
    exact ⟨CI.no 1 (by decide) rfl, h.p0, b⟩
theorem q_assure {n no nt t : Nat} {c : CC} {m : MC} {k z : Int32} (hz : z = 0 ∨ z = 1) (h : EQ n no nt c m) (b : BD n no nt t c) :
    CI [(3, 1)] (f_X3_assure c k z).1 ((f_X4_assure m k z).2.ti 0) (f_X4_assure m k z).1 ∧ EQ n no nt (f_X3_assure c k z).2 (f_X4_assure m k z).2 ∧ BD n no nt t (f_X3_assure c k z).2 := by
  unfold f_X3_assure f_X4_assure
  by_cases h0 : k < 0
  · have hn : ¬ rng k 0 7 := fun e => by
      have := e.1; rw [re_ile] at this; rw [re_ilt] at h0; omega
    rw [if_pos h0, if_pos (re_in.mpr hn)]
    exact ⟨CI.no 1 (by decide) rfl, h.p0, b⟩
  · rw [if_neg h0]
    by_cases h7 : k ≤ 7
    · have hk0 : 0 ≤ k := by rw [re_ile]; rw [re_ilt] at h0; omega
      have hr : rng k 0 7 := ⟨hk0, h7⟩
      rw [if_pos h7, if_neg (fun e => re_in.mp e hr)]
      obtain ⟨⟨e7, e23, e31, s1, s2, s3, s4, s5, s6, s7, s8, s9, er, nr, eo, ev, eg, ng, eb, ea⟩, hs⟩ := h
      obtain ⟨b0, b1, b2, b3, b4, b5, b6, b7, b8, b9, b10, b11⟩ := b
      have hi : ix k < 8 := by
        rw [re_ile, show (7 : Int32).toInt = 7 from rfl] at h7
        rw [re_ix]; omega
      obtain ⟨q, q1, q2⟩ := b6
      have ek : nI (ix k) = k := re_nIix hk0
      obtain ⟨t1, t2⟩ := bit_set q1 hi hz
      obtain ⟨q', u1, u2⟩ := bit_in8 q1 hi hz
      rw [ek] at t1 t2 u2
      rw [← q2] at t1 t2 u2
      have e1 : m.ai 37 (ix k) = f_X3_hasBit (c.ti 10).toInt64 k := by rw [ea _ hi, ek]
      have E : EQ n no nt (c.pti 10 (f_X3_withBit (c.ti 10) k z)) ((m.pti 0 0).pai 37 (ix k) z) := by
        refine ⟨⟨e7, e23, e31, s1, s2, s3, s4, s5, s6, s7, s8, s9, er, nr, eo, ev, eg, ng, eb, fun j hj => ?_⟩, hs.cg rfl rfl rfl rfl rfl⟩
        show up2 m.ai 37 (ix k) z 37 j = f_X3_hasBit (f_X3_withBit (c.ti 10) k z).toInt64 (nI j)
        rw [t1 j (by omega), re_ups]
        by_cases e : j = ix k
        · rw [if_pos e]; exact if_pos e
        · rw [if_neg e]; exact (if_neg e).trans (ea j hj)
      have B : BD n no nt t (c.pti 10 (f_X3_withBit (c.ti 10) k z)) := ⟨b0, b1, b2, b3, b4, b5, ⟨q', u1, u2⟩, b7, b8, b9, b10, b11⟩
      rw [e1]
      by_cases hc : f_X3_hasBit (c.ti 10).toInt64 k = z
      · rw [if_pos hc, if_pos (t2.mpr (by rw [← hc]))]
        exact ⟨CI.ok rfl, E, B⟩
      · rw [if_neg hc, if_neg (fun e => hc (t2.mp e))]
        exact ⟨CI.ok rfl, E, B⟩
    · have hn : ¬ rng k 0 7 := fun e => h7 e.2
      rw [if_neg h7, if_pos (re_in.mpr hn)]
      exact ⟨CI.no 1 (by decide) rfl, h.p0, b⟩
theorem q_year {n no nt t : Nat} {c : CC} {m : MC} {y : Int32} (h : EQ n no nt c m) (b : BD n no nt t c) :
    CJ [(1, 1), (2, 2)] (f_X3_year n c y).1 ((f_X4_year n m y).2.ti 0) (f_X4_year n m y).1 ∧ EQ n no nt (f_X3_year n c y).2 (f_X4_year n m y).2 ∧ BD n no nt t (f_X3_year n c y).2 := by
  have hty := b.2.1
  unfold f_X3_year f_X4_year
  by_cases h1 : rng y 1 10
  · have h1' := rng_b h1
    rw [show (1 : Int32).toInt = 1 from rfl, show (10 : Int32).toInt = 10 from rfl] at h1'
    have ey : (c.ti 3 + y).toInt = (c.ti 3).toInt + y.toInt := re_iadd (by omega) (by omega)
    rw [if_pos h1, if_neg (fun e => re_in.mp e h1), h.1.2.2.2.1]
    by_cases h2 : c.ti 3 + y ≤ 60
    · rw [if_pos h2, if_pos h2]
      rw [re_ile, ey, show (60 : Int32).toInt = 60 from rfl] at h2
      obtain ⟨r1, r2, r3, r4, r5⟩ := re_years h b (ix y) (by rw [re_ix, re_ix]; omega)
      refine ⟨?_, r2, r3⟩
      show CJ _ (.inl (some (.long (g_X3_year n c (ix y)).1))) ((g_X4_year n m (ix y)).2.ti 0) (g_X4_year n m (ix y)).1
      rw [r1]
      exact Or.inl ⟨rfl, r5⟩
    · rw [if_neg h2, if_neg h2]
      exact ⟨CJ.no 2 (by decide) rfl, h.p0, b⟩
  · rw [if_neg h1, if_pos (re_in.mpr h1)]
    exact ⟨CJ.no 1 (by decide) rfl, h.p0, b⟩
theorem q_sue {n no nt t : Nat} {c : CC} {m : MC} {k : Int32} (h : EQ n no nt c m) (b : BD n no nt t c) :
    CV [(3, 1), (2, 2)] (f_X3_sue n c k).1 ((f_X4_sue n m k).ti 0) ∧ EQ n no nt (f_X3_sue n c k).2 (f_X4_sue n m k) ∧ BD n no nt t (f_X3_sue n c k).2 := by
  have hn := b.1.1
  unfold f_X3_sue f_X4_sue
  by_cases hk : inr k n
  · have hi := re_inl (show n ≤ 600 by omega) hk
    obtain ⟨a0, a1, a2, a3, a4, a5, a6, a7, a8, a9, r0, r1, r2, r3⟩ := h.er hi
    obtain ⟨b0, b1, b2, b3, b4, b5, b6, b7, b8, b9, b10, b11, b12, b13, b14⟩ := b.at hi
    rw [if_pos hk, if_neg (fun e => (h.cl hn).mp e hk), a7, a8, r1]
    by_cases h8 : c.ci (ix k) 8 = 0
    · rw [if_neg (fun e => (re_open.mp e) h8), if_pos h8]
      have ez : c.cj (ix k) 9 ≤ 0 ↔ c.cj (ix k) 9 = 0 := by
        rw [re_le, re_eq, show (0 : Int64).toInt = 0 from rfl]; omega
      by_cases h9 : c.cj (ix k) 9 = 0
      · rw [if_pos h9, if_pos (ez.mpr h9)]
        exact ⟨CV.no 2 (by decide) rfl, h.p0, b⟩
      · rw [if_neg h9, if_neg (fun e => h9 (ez.mp e))]
        by_cases h11 : c.ci (ix k) 11 = 0
        · rw [if_pos h11, if_pos h11]
          obtain ⟨E, B⟩ := re_suit (g := 0) h.p0 b hi (show (1 : Int32) = 1 from rfl)
          exact ⟨CV.ok rfl, E, B⟩
        · rw [if_neg h11, if_neg h11]
          exact ⟨CV.no 2 (by decide) rfl, h.p0, b⟩
    · rw [if_pos (re_open.mpr h8), if_neg h8]
      exact ⟨CV.no 2 (by decide) rfl, h.p0, b⟩
  · rw [if_neg hk, if_pos ((h.cl hn).mpr hk)]
    exact ⟨CV.no 1 (by decide) rfl, h.p0, b⟩
theorem q_reveal {n no nt t : Nat} {c : CC} {m : MC} {k : Int32} (h : EQ n no nt c m) (b : BD n no nt t c) :
    CJ [(3, 1), (2, 2)] (f_X3_reveal n c k).1 ((f_X4_reveal n m k).2.ti 0) (f_X4_reveal n m k).1 ∧ EQ n no nt (f_X3_reveal n c k).2 (f_X4_reveal n m k).2 ∧ BD n no nt t (f_X3_reveal n c k).2 := by
  have hn := b.1.1
  unfold f_X3_reveal f_X4_reveal
  by_cases hk : inr k n
  · have hi := re_inl (show n ≤ 600 by omega) hk
    obtain ⟨a0, a1, a2, a3, a4, a5, a6, a7, a8, a9, r0, r1, r2, r3⟩ := h.er hi
    rw [if_pos hk, if_neg (fun e => (h.cl hn).mp e hk), a4]
    by_cases h4 : c.ci (ix k) 4 = 0
    · rw [if_pos h4, if_pos h4]
      exact ⟨CJ.no 2 (by decide) rfl, h.p0, b⟩
    · rw [if_neg h4, if_neg h4]
      have fc : Fc (ix k) c (c.pci (ix k) 4 0) := Fc.rf.pci
      have fm : Fm (ix k) (m.pti 0 0) ((m.pti 0 0).pai 15 (ix k) 0) := Fm.rf.pai (by decide) (by decide)
      have x : ∀ q, q ≠ 4 → (c.pci (ix k) 4 0).ci (ix k) q = c.ci (ix k) q := fun q hq => h_b6 hq
      have y : ∀ f, f ≠ 15 → ((m.pti 0 0).pai 15 (ix k) 0).ai f (ix k) = m.ai f (ix k) := fun f hf => congrFun (k_b2 hf) _
      have E : EQ n no nt (c.pci (ix k) 4 0) ((m.pti 0 0).pai 15 (ix k) 0) := by
        refine ⟨h.p0.1.claim hi fc fm h.1.2.2.2.2.1 ?_, h.p0.2.claim fc fm (x 0 (by decide)) (by rw [x 8 (by decide)]) rfl rfl⟩
        unfold ER
        rw [x 0 (by decide), x 1 (by decide), x 2 (by decide), x 3 (by decide), x 6 (by decide), x 7 (by decide), x 8 (by decide), x 11 (by decide), x 12 (by decide), h_b1,
          y 8 (by decide), y 9 (by decide), y 13 (by decide), y 14 (by decide), y 11 (by decide), y 12 (by decide), y 16 (by decide), y 20 (by decide), y 21 (by decide), k_b1]
        exact ⟨a0, a1, a2, a3, rfl, a5, a6, a7, a8, a9, r0, r1, r2, r3⟩
      refine ⟨?_, E, b.claim fc (fun j _ => Nat.le_refl _) ?_⟩
      · have hd : f_X4_debt n ((m.pti 0 0).pai 15 (ix k) 0) = f_X3_debt n (c.pci (ix k) 4 0) := re_debt fun i hi => E.er hi
        rw [hd]
        exact CJ.ok rfl
      · have bc := b.at hi
        unfold BC at *
        rw [x 0 (by decide), x 1 (by decide), x 2 (by decide), x 3 (by decide), x 6 (by decide), x 7 (by decide), x 8 (by decide), x 17 (by decide), h_b1]
        obtain ⟨b0, b1, b2, b3, b4, b5, b6, b7, b8, b9, b10, b11, b12, b13, b14⟩ := bc
        exact ⟨b0, b1, b2, b3, Or.inl rfl, b5, b6, b7, b8, b9, b10, b11, b12, b13, b14⟩
  · rw [if_neg hk, if_pos ((h.cl hn).mpr hk)]
    exact ⟨CJ.no 1 (by decide) rfl, h.p0, b⟩
theorem q_pledge {n no nt t : Nat} {c : CC} {m : MC} {k x : Int32} (h : EQ n no nt c m) (b : BD n no nt t c) (ht : t < 600) :
    CJ [(3, 1), (1, 2), (2, 3)] (f_X3_pledge n c k x).1 ((f_X4_pledge n m k x).2.ti 0) (f_X4_pledge n m k x).1 ∧ EQ n no nt (f_X3_pledge n c k x).2 (f_X4_pledge n m k x).2 ∧ BD n no nt (t + 1) (f_X3_pledge n c k x).2 := by
  have hn := b.1.1
  have bu := BD.up b ht
  unfold f_X3_pledge f_X4_pledge
  by_cases hk : inr k n
  · have hi := re_inl (show n ≤ 600 by omega) hk
    obtain ⟨a0, a1, a2, a3, a4, a5, a6, a7, a8, a9, r0, r1, r2, r3⟩ := h.er hi
    rw [if_pos hk, if_neg (fun e => (h.cl hn).mp e hk), a7]
    by_cases hx : rng x 1 1000000
    · rw [if_pos hx, if_neg (fun e => re_in.mp e hx)]
      by_cases h8 : c.ci (ix k) 8 = 0
      · rw [if_neg (fun e => (re_open.mp e) h8), if_pos h8, h.1.2.2.2.2.1]
        by_cases hp : x.toInt64 ≤ c.tj 4
        · rw [if_pos hp, if_pos hp, r2]
          have fc : Fc (ix k) c ((c.ptj 4 ((c.tj 4) - x.toInt64)).pcj (ix k) 10 (c.cj (ix k) 10 + x.toInt64)) := (Fc.rf.p4).pcj
          have fm : Fm (ix k) (m.pti 0 0) (((m.pti 0 0).ptj 2 (c.tj 4 - x.toInt64)).paj 18 (ix k) (c.cj (ix k) 10 + x.toInt64)) := (Fm.rf.p2).paj (by decide) (by decide)
          have u : ∀ q, q ≠ 10 → ((c.ptj 4 ((c.tj 4) - x.toInt64)).pcj (ix k) 10 (c.cj (ix k) 10 + x.toInt64)).cj (ix k) q = c.cj (ix k) q := fun q hq => re_upk hq
          have u1 : ((c.ptj 4 ((c.tj 4) - x.toInt64)).pcj (ix k) 10 (c.cj (ix k) 10 + x.toInt64)).cj (ix k) 10 = c.cj (ix k) 10 + x.toInt64 := re_up1
          have y : ∀ f, f ≠ 18 → (((m.pti 0 0).ptj 2 (c.tj 4 - x.toInt64)).paj 18 (ix k) (c.cj (ix k) 10 + x.toInt64)).aj f (ix k) = m.aj f (ix k) := fun f hf => by
            show up2 m.aj 18 (ix k) _ f (ix k) = _
            unfold up2; rw [if_neg hf]
          have y1 : (((m.pti 0 0).ptj 2 (c.tj 4 - x.toInt64)).paj 18 (ix k) (c.cj (ix k) 10 + x.toInt64)).aj 18 (ix k) = c.cj (ix k) 10 + x.toInt64 := k_a1
          refine ⟨CJ.ok rfl, ⟨h.p0.1.claim hi fc fm rfl ?_, h.p0.2.claim fc fm rfl Iff.rfl (u 13 (by decide)) (u 14 (by decide))⟩, bu.claim fc (fun j _ => Nat.le_refl _) ?_⟩
          · unfold ER
            rw [u 5 (by decide), u 9 (by decide), u 15 (by decide), u1, y 10 (by decide), y 17 (by decide), y 19 (by decide), y1]
            exact ⟨a0, a1, a2, a3, a4, a5, a6, a7, a8, a9, r0, r1, rfl, r3⟩
          · have bc := b.at hi
            unfold BC at *
            rw [u 5 (by decide), u 9 (by decide), u 13 (by decide), u 14 (by decide), u 15 (by decide), u1]
            obtain ⟨b0, b1, b2, b3, b4, b5, b6, b7, b8, b9, b10, b11, b12, b13, b14⟩ := bc
            refine ⟨b0, b1, b2, b3, b4, b5, b6, b7, b8, b9, ?_, b11, b12, b13, b14⟩
            have hb := rng_b hx
            rw [show (1 : Int32).toInt = 1 from rfl, show (1000000 : Int32).toInt = 1000000 from rfl] at hb
            have et : ((t + 1 : Nat) : Int) = t + 1 := rfl
            rw [re_add (by rw [re_w]; omega) (by rw [re_w]; omega), re_w]
            omega
        · rw [if_neg hp, if_neg hp]
          exact ⟨CJ.no 3 (by decide) rfl, h.p0, bu⟩
      · rw [if_pos (re_open.mpr h8), if_neg h8]
        exact ⟨CJ.no 3 (by decide) rfl, h.p0, bu⟩
    · rw [if_neg hx, if_pos (re_in.mpr hx)]
      exact ⟨CJ.no 2 (by decide) rfl, h.p0, bu⟩
  · rw [if_neg hk, if_pos ((h.cl hn).mpr hk)]
    exact ⟨CJ.no 1 (by decide) rfl, h.p0, bu⟩
