/-! THE RELATION, 20: settle -/
abbrev CC.so (c : CC) (y : Nat → Nat → Int64) : CC := (c.ti, c.tj, c.ci, c.cj, c.pay, c.oi, y, c.gi)
theorem go_bit : ∀ s, s < 16 → ∀ r, r < 4 → ((nI s >>> (nI r &&& 31)) &&& 1 = 1 ↔ ¬ f_X3_hasBit (nI s).toInt64 (nI r) = 0) := by decide
theorem re_go {n no nt t i : Nat} {c : CC} {m : MC} {s : Int32} (er : ER (c.ci i) (c.cj i) m i) (b : BD n no nt t c) (hi : i < n) (hs : 0 ≤ s.toInt ∧ s.toInt ≤ 15) : f_X4_goes m i s = i_X3_isInSeries c i s := by
  obtain ⟨a0, a1, a2, a3, a4, a5, a6, a7, a8, a9, r0, r1, r2, r3⟩ := er
  obtain ⟨b0, b1, b2, b3, b4, b5, b6, b7, b8, b9, b10, b11, b12, b13, b14⟩ := b.at hi
  unfold f_X4_goes i_X3_isInSeries
  rw [a0, a7, a3]
  by_cases h0 : c.ci i 0 = 1
  · rw [if_pos h0, if_pos h0]
    have h3 := b3.2 h0
    by_cases h8 : c.ci i 8 = 0
    · rw [if_pos h8, if_neg (show ¬ i_X0_isOpen c i = 0 from fun e => (re_open.mp e) h8)]
      have k := go_bit (ix s) (by rw [re_ix]; omega) (ix (c.ci i 3)) (by rw [re_ix]; omega)
      rw [re_nIix (by rw [re_ile]; exact hs.1), re_nIix (by rw [re_ile]; exact h3)] at k
      by_cases e : f_X3_hasBit s.toInt64 (c.ci i 3) = 0
      · rw [if_pos e, if_neg (fun u => (k.mp u) e)]
      · rw [if_neg e, if_pos (k.mpr e)]
    · rw [if_neg h8, if_pos (show i_X0_isOpen c i = 0 from re_open.mpr h8)]
  · rw [if_neg h0, if_neg h0]
theorem in_op {c : CC} {i : Nat} {s : Int32} (h : ¬ i_X3_isInSeries c i s = 0) : c.ci i 8 = 0 := by
  unfold i_X3_isInSeries at h
  by_cases h0 : c.ci i 0 = 1
  · rw [if_pos h0] at h
    by_cases h8 : c.ci i 8 = 0
    · exact h8
    · rw [if_pos (show i_X0_isOpen c i = 0 from re_open.mpr h8)] at h
      exact absurd rfl h
  · rw [if_neg h0] at h
    exact absurd rfl h
theorem in_cg {c c' : CC} {i : Nat} {s : Int32} (h : c'.ci i = c.ci i) : i_X3_isInSeries c' i s = i_X3_isInSeries c i s := by
  unfold i_X3_isInSeries i_X0_isOpen
  rw [h]
theorem re_cnle {c : CC} {s : Int32} : ∀ {a d : Nat}, cnt c s a ≤ cnt c s (a + d)
  | a, 0 => Nat.le_refl _
  | a, d + 1 => by
    refine Nat.le_trans (re_cnle (d := d)) ?_
    show cnt c s (a + d) ≤ if i_X3_isInSeries c (a + d) s = 0 then cnt c s (a + d) else cnt c s (a + d) + 1
    split <;> omega
theorem re_cnn {c : CC} {s : Int32} : ∀ k, cnt c s k ≤ k
  | 0 => Nat.le_refl _
  | k + 1 => by
    have := re_cnn (c := c) (s := s) k
    show (if i_X3_isInSeries c k s = 0 then cnt c s k else cnt c s k + 1) ≤ k + 1
    split <;> omega
theorem g3_cnt {n : Nat} {c : CC} {o : Int32} : ∀ k, k ≤ 40 → g_X3_settle n c o k = nI (cnt c (f_X3_seriesToSwap n c (ix o)) k)
  | 0, _ => rfl
  | k + 1, hk => by
    have := re_cnn (c := c) (s := f_X3_seriesToSwap n c (ix o)) k
    show (if (i_X3_isInSeries c k (f_X3_seriesToSwap n c (ix o))) = 0 then (g_X3_settle n c o k) + 0 else (g_X3_settle n c o k) + 1) = nI (if i_X3_isInSeries c k (f_X3_seriesToSwap n c (ix o)) = 0 then cnt c (f_X3_seriesToSwap n c (ix o)) k else cnt c (f_X3_seriesToSwap n c (ix o)) k + 1)
    rw [g3_cnt k (by omega)]
    split
    · rw [Int32.add_zero]
    · exact (re_cnt (by omega)).2
theorem g4_cnt {n no nt t : Nat} {c : CC} {m : MC} {o : Int32} (h : EQ n no nt c m) (b : BD n no nt t c) (ho : inr o no) : ∀ k, k ≤ n → g_X4_settle n m o k = nI (cnt c (f_X3_seriesToSwap n c (ix o)) k)
  | 0, _ => rfl
  | k + 1, hk => by
    have hn := b.1.1
    have hno := b.1.2.1
    have := re_cnn (c := c) (s := f_X3_seriesToSwap n c (ix o)) k
    have hof : ¬ f_X4_isOffer m o = 0 := fun e => (h.of hno).mp e ho
    show (if (f_X4_isOffer m o) = 0 then (g_X4_settle n m o k) + 0 else (if (f_X4_goes m k (f_X4_passed n m (ix o))) = 0 then (g_X4_settle n m o k) + 0 else (g_X4_settle n m o k) + 1)) = nI (if i_X3_isInSeries c k (f_X3_seriesToSwap n c (ix o)) = 0 then cnt c (f_X3_seriesToSwap n c (ix o)) k else cnt c (f_X3_seriesToSwap n c (ix o)) k + 1)
    rw [if_neg hof, g4_cnt h b ho k (by omega), re_set h.1 hn hno (re_inl (by omega) ho), re_go (h.er (by omega)) b (by omega) re_setr]
    split
    · rw [Int32.add_zero]
    · exact (re_cnt (by omega)).2
/-- a vote is forgotten -/
theorem re_forget {n no nt k j : Nat} {c : CC} {m : MC} {y : Int64} (h : EQ n no nt c m) (hn : n ≤ 40) (hno : no ≤ 12) (hk : k < n) (hj : j < no) (hy : ∀ i, i < 40 → f_X3_hasBit y (nI i) = if i = k then 0 else f_X3_hasBit (c.oj j 3) (nI i)) :
    EQ n no nt (c.poj j 3 y) (m.pai 27 (40 * j + k) 0) := by
  obtain ⟨⟨e7, e23, e31, s1, s2, s3, s4, s5, s6, s7, s8, s9, er, nr, eo, ev, eg, ng, eb, ea⟩, hs⟩ := h
  refine ⟨⟨e7, e23, e31, s1, s2, s3, s4, s5, s6, s7, s8, s9, er, nr, eo, fun q i hj12 hi40 => ?_, eg, ng, eb, ea⟩, hs.cg rfl rfl rfl rfl rfl⟩
  obtain ⟨v1, v2⟩ := ev q i hj12 hi40
  show (q < no → (f_X3_hasBit (up2 c.oj j 3 y q 3) (nI i) = 0 ↔ up2 m.ai 27 (40 * j + k) 0 27 (40 * q + i) ≠ 1)) ∧ (no ≤ q ∨ n ≤ i → up2 m.ai 27 (40 * j + k) 0 27 (40 * q + i) ≠ 1)
  have hat : up2 m.ai 27 (40 * j + k) 0 27 (40 * q + i) = if 40 * q + i = 40 * j + k then 0 else m.ai 27 (40 * q + i) := by rw [re_ups]
  rw [hat]
  by_cases e : 40 * q + i = 40 * j + k
  · have ej : q = j := by omega
    have ei : i = k := by omega
    rw [if_pos e, ej, re_up1, hy i hi40, if_pos ei]
    exact ⟨fun _ => ⟨fun _ => by decide, fun _ => rfl⟩, fun _ => by decide⟩
  · rw [if_neg e]
    refine ⟨fun hjn => ?_, v2⟩
    by_cases ej : q = j
    · have ei : ¬ i = k := fun ei => e (by rw [ej, ei])
      rw [ej, re_up1, hy i hi40, if_neg ei, ← ej]; exact v1 hjn
    · rw [re_up ej]; exact v1 hjn
theorem re_loop {n no nt t j : Nat} {c : CC} {m : MC} {s : Int32} (h : EQ n no nt c m) (b : BD n no nt t c) (hj : j < no) (hs : 0 ≤ s.toInt ∧ s.toInt ≤ 15) (hc : n + cnt c s n ≤ 40) : ∀ k, k ≤ n →
    ∃ y, (∀ q, q ≠ j → y q = c.oj q) ∧ (∀ i, i < 40 → (i < k ∨ n ≤ i) → f_X3_hasBit (y j 3) (nI i) = 0) ∧ (q_X4_settle n m s j k).1 = (h_X3_settle n c s j k).1 ∧ (h_X3_settle n c s j k).1 = n + cnt c s k ∧
      EQ (n + cnt c s k) no nt ((h_X3_settle n c s j k).2.so y) (q_X4_settle n m s j k).2 ∧ BD (n + cnt c s k) no nt t ((h_X3_settle n c s j k).2.so y) ∧ (∀ q, k ≤ q → q < n → (h_X3_settle n c s j k).2.ci q = c.ci q) ∧ (q_X4_settle n m s j k).2.ti 0 = m.ti 0 ∧ (h_X3_settle n c s j k).2.oj = c.oj
  | 0, _ => by
    have hn := b.1.1
    have hno := b.1.2.1
    refine ⟨c.oj, fun _ _ => rfl, fun i hi hh => ?_, rfl, rfl, h, b, fun _ _ _ => rfl, rfl, rfl⟩
    obtain ⟨v1, v2⟩ := h.1.2.2.2.2.2.2.2.2.2.2.2.2.2.2.2.1 j i (by omega) hi
    exact (v1 hj).mpr (v2 (Or.inr (by omega)))
  | k + 1, hk => by
    obtain ⟨y, i1, i2, i3, i4, i5, i6, i7, i8, i9⟩ := re_loop h b hj hs hc k (by omega)
    have hn := b.1.1
    have hno := b.1.2.1
    have hck : cnt c s (k + 1) ≤ cnt c s n := by
      obtain ⟨d, rfl⟩ := Nat.exists_eq_add_of_le hk
      exact re_cnle
    have hkN : k < n + cnt c s k := by omega
    have hN40 : n + cnt c s k ≤ 40 := i6.1.1
    have ek := i7 k (Nat.le_refl _) (by omega)
    -- the vote of claim k is forgotten
    have yb : ∀ i, i < 40 → f_X3_hasBit ((y j 3) &&& ((1 <<< ((nI k).toInt64 &&& 63)) ^^^ (-1))) (nI i) = if i = k then 0 else f_X3_hasBit (((h_X3_settle n c s j k).2.so y).oj j 3) (nI i) := fun i hi => hb_an hi (by omega)
    have E1 := re_forget i5 hN40 hno hkN hj yb
    obtain ⟨z, hz⟩ : ∃ z : Int64, z = (y j 3) &&& ((1 <<< ((nI k).toInt64 &&& 63)) ^^^ (-1)) := ⟨_, rfl⟩
    rw [← hz] at yb E1
    have z1 : ∀ q, q ≠ j → up2 y j 3 z q = c.oj q := fun q hq => (re_up hq).trans (i1 q hq)
    have z2 : ∀ i, i < 40 → (i < k + 1 ∨ n ≤ i) → f_X3_hasBit (up2 y j 3 z j 3) (nI i) = 0 := fun i hi hh => by
      rw [re_up1, yb i hi]
      by_cases e : i = k
      · rw [if_pos e]
      · rw [if_neg e]; exact i2 i hi (by omega)
    have eS : ((h_X3_settle n c s j k).2.so y).poj j 3 z = (h_X3_settle n c s j k).2.so (up2 y j 3 z) := rfl
    rw [eS] at E1
    have B1 : BD (n + cnt c s k) no nt t ((h_X3_settle n c s j k).2.so (up2 y j 3 z)) := i6
    have eg : f_X4_goes ((q_X4_settle n m s j k).2.pai 27 (40 * j + k) 0) k s = i_X3_isInSeries c k s := by
      rw [re_go (E1.er hkN) B1 hkN hs, in_cg (c := c) (c' := (h_X3_settle n c s j k).2.so (up2 y j 3 z)) ek]
    have ei : i_X3_isInSeries (h_X3_settle n c s j k).2 k s = i_X3_isInSeries c k s := in_cg ek
    have hq : q_X4_settle n m s j (k + 1) = if f_X4_goes ((q_X4_settle n m s j k).2.pai 27 (40 * j + k) 0) k s = 0 then ((q_X4_settle n m s j k).1, (q_X4_settle n m s j k).2.pai 27 (40 * j + k) 0) else ((q_X4_settle n m s j k).1 + 1, (f_X4_swaps (q_X4_settle n m s j k).1 ((q_X4_settle n m s j k).2.pai 27 (40 * j + k) 0) k j).2) := rfl
    have hh : h_X3_settle n c s j (k + 1) = if i_X3_isInSeries (h_X3_settle n c s j k).2 k s = 0 then h_X3_settle n c s j k else ((h_X3_settle n c s j k).1 + 1, (f_X3_swap (h_X3_settle n c s j k).1 (h_X3_settle n c s j k).2 k (nI k) j).2.2) := rfl
    have hct : cnt c s (k + 1) = if i_X3_isInSeries c k s = 0 then cnt c s k else cnt c s k + 1 := rfl
    rw [eg, i3, i4] at hq
    rw [ei, i4] at hh
    refine ⟨up2 y j 3 z, z1, z2, ?_⟩
    by_cases e : i_X3_isInSeries c k s = 0
    · rw [if_pos e] at hq hh hct
      rw [hq, hh, hct]
      exact ⟨i4.symm, i4, E1, B1, fun q h1 h2 => i7 q (by omega) h2, i8, i9⟩
    · rw [if_neg e] at hq hh hct
      rw [hq, hh, hct]
      rw [hct] at hck
      have h8 : ((h_X3_settle n c s j k).2.so (up2 y j 3 z)).ci k 8 = 0 := by
        show (h_X3_settle n c s j k).2.ci k 8 = 0
        rw [ek]; exact in_op e
      obtain ⟨E2, B2, T2⟩ := re_swap E1 B1 (by omega) hkN hj h8
      have eF : (f_X3_swap (n + cnt c s k) ((h_X3_settle n c s j k).2.so (up2 y j 3 z)) k (nI k) j).2.2 = (f_X3_swap (n + cnt c s k) (h_X3_settle n c s j k).2 k (nI k) j).2.2.so (up2 y j 3 z) := rfl
      rw [eF] at E2 B2
      obtain ⟨⟨q1, q2, q3, q4, q5⟩, q6, _⟩ := sw_C (c := (h_X3_settle n c s j k).2) (j := j) (k := nI k) hkN rfl
      refine ⟨rfl, rfl, E2, B2, fun q h1 h2 => ?_, T2.trans i8, q4.trans i9⟩
      show (f_X3_swap (n + cnt c s k) (h_X3_settle n c s j k).2 k (nI k) j).2.2.ci q = c.ci q
      rw [(q6 q (by omega) (by omega)).1]
      exact i7 q (by omega) h2
theorem q_settle {n no nt t : Nat} {c : CC} {m : MC} {o : Int32} (h : EQ n no nt c m) (b : BD n no nt t c) :
    CI [(3, 1), (2, 2)] (f_X3_settle n no c o).1 ((f_X4_settle n no m o).2.ti 0) (f_X4_settle n no m o).1 ∧ EQ (f_X3_settle n no c o).2.1 no nt (f_X3_settle n no c o).2.2 (f_X4_settle n no m o).2 ∧ BD (f_X3_settle n no c o).2.1 no nt t (f_X3_settle n no c o).2.2 := by
  have hn := b.1.1
  have hno := b.1.2.1
  unfold f_X3_settle f_X4_settle
  by_cases ho : inr o no
  · have hof : ¬ f_X4_isOffer m o = 0 := fun e => (h.of hno).mp e ho
    have hj := re_inl (show no ≤ 600 by omega) ho
    rw [if_pos ho, if_neg hof, if_neg hof, h.1.1, g3_cnt n hn, g4_cnt h b ho n (Nat.le_refl _), re_set h.1 hn hno hj]
    have hs := re_setr (n := n) (c := c) (j := ix o)
    generalize f_X3_seriesToSwap n c (ix o) = s at *
    have hcn := re_cnn (c := c) (s := s) n
    have hsum : (nI n + nI (cnt c s n) : Int32) ≤ 40 ↔ n + cnt c s n ≤ 40 := by
      rw [re_ile, re_iadd (by rw [re_nI (by omega), re_nI (by omega)]; omega) (by rw [re_nI (by omega), re_nI (by omega)]; omega), re_nI (by omega), re_nI (by omega), show (40 : Int32).toInt = 40 from rfl]
      omega
    by_cases hc : n + cnt c s n ≤ 40
    · rw [if_pos (hsum.mpr hc), if_pos (hsum.mpr hc)]
      obtain ⟨y, i1, i2, i3, i4, i5, i6, i7, i8, i9⟩ := re_loop (m := m.pti 0 0) h.p0 b hj hs hc n (Nat.le_refl _)
      refine ⟨?_, ?_, ?_⟩
      · refine CI.ok ?_
        exact i8
      · show EQ (h_X3_settle n c s (ix o) n).1 no nt (f_X1_forgetVotes (h_X3_settle n c s (ix o) n).2 (ix o)) (q_X4_settle n (m.pti 0 0) s (ix o) n).2
        rw [i4]
        obtain ⟨⟨e7, e23, e31, s1, s2, s3, s4, s5, s6, s7, s8, s9, er, nr, eo, ev, eg, ng, eb, ea⟩, hs'⟩ := i5
        refine ⟨⟨e7, e23, e31, s1, s2, s3, s4, s5, s6, s7, s8, s9, er, nr, eo, fun q i hq12 hi40 => ?_, eg, ng, eb, ea⟩, hs'.cg rfl rfl rfl rfl rfl⟩
        obtain ⟨v1, v2⟩ := ev q i hq12 hi40
        refine ⟨fun hqn => ?_, v2⟩
        show f_X3_hasBit (up2 (h_X3_settle n c s (ix o) n).2.oj (ix o) 3 0 q 3) (nI i) = 0 ↔ _
        by_cases e : q = ix o
        · rw [e, re_up1, hb_0 hi40]
          have := v1 hqn
          rw [e] at this
          refine ⟨fun _ => this.mp (i2 i hi40 (by omega)), fun _ => rfl⟩
        · rw [re_up e, i9, ← i1 q e]
          exact v1 hqn
      · show BD (h_X3_settle n c s (ix o) n).1 no nt t (f_X1_forgetVotes (h_X3_settle n c s (ix o) n).2 (ix o))
        rw [i4]
        exact i6
    · rw [if_neg (fun e => hc (hsum.mp e)), if_neg (fun e => hc (hsum.mp e))]
      exact ⟨CI.no 2 (by decide) rfl, h.p0, b⟩
  · have hof : f_X4_isOffer m o = 0 := (h.of hno).mpr ho
    rw [if_neg ho, if_pos hof, if_pos hof]
    exact ⟨CI.no 1 (by decide) rfl, h.p0, b⟩
