/-! THE LAW, 8: swaps, reviews, efforts -/
/-- a swap: the old row, the new row -/
theorem w_swap {n no nt t i j : Nat} {c : CC} {k : Int32} (b : BD n no nt t c) (hi : i < n) (hj : j < no) (h8 : c.ci i 8 = 0) (xs : XS n c) {c' : CC} (hc : c' = (f_X3_swap n c i k j).2.2) :
    XS (n + 1) c' ∧ c'.ti = c.ti ∧ c'.tj = c.tj ∧ sA c' (n + 1) = sA c n ∧ c'.oj = c.oj ∧ (c'.ci i 8 = 2 ∧ c'.cj i 10 = 0) ∧ (c'.ci n 8 = 0 ∧ c'.ci n 12 = k ∧ c'.cj n 10 = c.cj i 10 ∧ c'.cj n 15 = 0) ∧
    (c'.ci n 7 = c.ti 3 + c.oi j 2 ∧ c'.ci n 6 = c.oi j 1 ∧ c'.cj n 5 = i_X1_principalFor c j i ∧ c'.cj n 9 = 0) := by
  obtain ⟨⟨q1, q2, q3, q4, q5⟩, q6, q7, q8, q9, q10, q11, q12⟩ := sw_C hi hc
  have hin : i ≠ n := by omega
  obtain ⟨b0, b1, b2, b3, b4, b5, b6, b7, b8, b9, b10, b11, b12, b13, b14⟩ := b.at hi
  have hty := b.2.1
  have hrt := b.2.2.2.2.1
  have hix : ix (c.ti 3) ≤ 60 := by rw [re_ix]; omega
  have hg := gB_le hix
  obtain ⟨o0, o1, o2⟩ := BG.of b hj
  obtain ⟨x1, x2, x3, x4⟩ := xs.2 i hi
  have hnow : (c.ti 3 + c.oi j 2).toInt = (c.ti 3).toInt + (c.oi j 2).toInt := re_iadd (by omega) (by omega)
  have hdiff : c.ti 3 + c.oi j 2 - c.ti 3 = c.oi j 2 := by grind
  -- the new principal
  have eP : 0 ≤ (i_X1_principalFor c j i).toInt ∧ (i_X1_principalFor c j i).toInt ≤ (c.cj i 5).toInt + (c.cj i 9).toInt := by
    have e1 : (100 - c.oi j 0 : Int32).toInt = 100 - (c.oi j 0).toInt := by
      rw [re_isub]
      · rfl
      · rw [show (100 : Int32).toInt = 100 from rfl]; omega
      · rw [show (100 : Int32).toInt = 100 from rfl]; omega
    have e2 : (i_X0_owed c i).toInt = (c.cj i 5).toInt + (c.cj i 9).toInt := re_add (by omega) (by omega)
    have m1 : 0 ≤ ((c.cj i 5).toInt + (c.cj i 9).toInt) * (100 - (c.oi j 0).toInt) := Int.mul_nonneg (by omega) (by omega)
    have m2 : ((c.cj i 5).toInt + (c.cj i 9).toInt) * (100 - (c.oi j 0).toInt) ≤ ((c.cj i 5).toInt + (c.cj i 9).toInt) * 100 := Int.mul_le_mul_of_nonneg_left (by omega) (by omega)
    have e3 : (i_X0_owed c i * (100 - c.oi j 0 : Int32).toInt64).toInt = ((c.cj i 5).toInt + (c.cj i 9).toInt) * (100 - (c.oi j 0).toInt) := by
      rw [re_mul (by rw [e2, re_w, e1]; omega) (by rw [e2, re_w, e1]; omega), e2, re_w, e1]
    unfold i_X1_principalFor
    rw [re_quot (by decide), e3, show (100 : Int64).toInt = 100 from rfl]
    omega
  -- the new value, and the old
  have eN : (f_X3_discounted (i_X1_principalFor c j i) (c.oi j 1) (c.ti 3 + c.oi j 2 - c.ti 3) (c.ti 8)).toInt ≤ 4 * (i_X1_principalFor c j i).toInt :=
    (re_vby (m := mc0.pti 1 (c.ti 3)) (yr := c.ti 3) (r := c.ti 8) (du := c.ti 3 + c.oi j 2) eP.1 (by omega) o1.1 o1.2 hrt.1 hrt.2 k_s1 (by omega) (by omega) hty.1 (by omega) (by omega)).2.2
  have eO : 4 * ((c.cj i 5).toInt + (c.cj i 9).toInt) ≤ 270 * (f_X0_worth c i (c.ti 3) (c.ti 8)).toInt + 2040 := by
    unfold f_X0_worth
    rw [if_neg (fun e => (re_open.mp e) h8)]
    have ed : (c.ci i 7 - c.ti 3).toInt = (c.ci i 7).toInt - (c.ti 3).toInt := re_isub (by omega) (by omega)
    have hk : ix (c.ci i 7 - c.ti 3) ≤ 30 := by rw [re_ix, ed]; omega
    obtain ⟨_, v2, v3⟩ := re_vby (m := mc0.pti 1 (c.ti 3)) (yr := c.ti 3) (r := c.ti 8) (du := c.ci i 7) b9.1 (by omega) b5.1 b5.2 hrt.1 hrt.2 k_s1 b6.1 (by omega) hty.1 (by omega) b6.2
    rw [re_add (by omega) (by omega)]
    by_cases hdue : (c.ci i 7).toInt ≤ (c.ti 3).toInt
    · have z5 : (c.cj i 5).toInt = 0 := by rw [x3 h8 hdue]; rfl
      omega
    · have h1 : 1 ≤ ix (c.ci i 7 - c.ti 3) := by rw [re_ix, ed]; omega
      have := v_four (ys := c.ci i 7 - c.ti 3) b9.1 (show (c.cj i 5).toInt ≤ 6000000000 by omega) b5.1 b5.2 hrt.1 hrt.2 h1 hk
      unfold f_X3_discounted
      unfold f_X3_discounted at v2
      omega
  refine ⟨⟨by rw [q1]; exact xs.1, fun q hq => ?_⟩, q1, q2, ?_, q4, ⟨?_, ?_⟩, ⟨?_, ?_, ?_, ?_⟩, ?_, ?_, ?_, ?_⟩
  · rw [q1]
    by_cases e : q = n
    · rw [e, q7, q8]
      refine ⟨fun h => absurd rfl h, fun _ => rfl, fun _ h => ?_, ?_⟩
      · change (c.ti 3 + c.oi j 2).toInt ≤ _ at h
        omega
      · show (f_X3_discounted (i_X1_principalFor c j i) (c.oi j 1) (c.ti 3 + c.oi j 2 - c.ti 3) (c.ti 8)).toInt ≤ 270 * (f_X0_worth c i (c.ti 3) (c.ti 8)).toInt + 2040
        omega
    · by_cases e2 : q = i
      · rw [e2, q10, q11]
        exact ⟨fun _ => rfl, x2, fun h => absurd h (show ¬ (2 : Int32) = 0 by decide), x4⟩
      · rw [(q6 q e e2).1, (q6 q e e2).2.1]; exact xs.2 q (by omega)
  · refine sA_two hi (fun q h1 h2 => (q6 q h2 h1).2.1) ?_
    rw [q11, q8]
    show 0 + c.cj i 15 + (c.cj i 10 + 0) = _
    grind
  · rw [q10]; rfl
  · rw [q11]; rfl
  · rw [q7]; rfl
  · rw [q7]; rfl
  · rw [q8]; rfl
  · rw [q8]; rfl
  · rw [q7]; rfl
  · rw [q7]; rfl
  · rw [q8]; rfl
  · rw [q8]; rfl
theorem p_accept {n no nt t : Nat} {c : CC} {k o : Int32} (I : IV n no nt t c) (hk : inr k n) (ho : inr o no) :
    f_X3_accept n no c k o = (.inr 2, n, c) ∨
    (c.ci (ix k) 8 = 0 ∧ n < 40 ∧ ∃ c', f_X3_accept n no c k o = (.inl (some (.int (nI n))), n + 1, c') ∧ IV (n + 1) no nt t c' ∧ c'.ti = c.ti ∧ c'.tj = c.tj ∧ sA c' (n + 1) = sA c n ∧ (c'.ci (ix k) 8 = 2 ∧ c'.cj (ix k) 10 = 0) ∧ (c'.ci n 8 = 0 ∧ c'.ci n 12 = k ∧ c'.cj n 10 = c.cj (ix k) 10 ∧ c'.cj n 15 = 0) ∧
      (c'.ci n 7 = c.ti 3 + c.oi (ix o) 2 ∧ c'.ci n 6 = c.oi (ix o) 1 ∧ c'.cj n 5 = i_X1_principalFor c (ix o) (ix k) ∧ c'.cj n 9 = 0)) := by
  obtain ⟨⟨m, h, b⟩, xs⟩ := I
  obtain ⟨_, e2, b2⟩ := q_accept (k := k) (o := o) h b
  have hn := b.1.1
  have hi := re_inl (show n ≤ 600 by omega) hk
  have hj := re_inl (show no ≤ 600 by have := b.1.2.1; omega) ho
  have hR := re_room hn
  by_cases h0 : c.ci (ix k) 0 = 1
  · exact Or.inl (by unfold f_X3_accept; rw [if_pos hk, if_pos ho, if_pos h0])
  · by_cases h8 : c.ci (ix k) 8 = 0
    · by_cases hn4 : n < 40
      · right
        have e : f_X3_accept n no c k o = (.inl (some (.int (nI n))), n + 1, (f_X3_swap n c (ix k) k (ix o)).2.2) := by
          unfold f_X3_accept
          rw [if_pos hk, if_pos ho, if_neg h0, if_neg (fun e => (re_open.mp e) h8), if_pos (hR.1.mpr hn4), (re_cnt (show n < 600 by omega)).1]
        rw [e] at e2 b2
        obtain ⟨s1, s2, s3, s4, s5, s6, s7, s8⟩ := w_swap (k := k) b hi hj h8 xs rfl
        exact ⟨h8, hn4, _, e, ⟨⟨_, e2, b2⟩, s1⟩, s2, s3, s4, s6, s7, s8⟩
      · exact Or.inl (by unfold f_X3_accept; rw [if_pos hk, if_pos ho, if_neg h0, if_neg (fun e => (re_open.mp e) h8), if_neg (fun e => hn4 (hR.1.mp e))])
    · exact Or.inl (by unfold f_X3_accept; rw [if_pos hk, if_pos ho, if_neg h0, if_pos (re_open.mpr h8)])
theorem w_loop {n no nt t j : Nat} {c : CC} {m : MC} {s : Int32} (h : EQ n no nt c m) (b : BD n no nt t c) (hj : j < no) (hs : 0 ≤ s.toInt ∧ s.toInt ≤ 15) (hc : n + cnt c s n ≤ 40) (xs : XS n c) : ∀ k, k ≤ n →
    XS (n + cnt c s k) (h_X3_settle n c s j k).2 ∧ (h_X3_settle n c s j k).2.ti = c.ti ∧ (h_X3_settle n c s j k).2.tj = c.tj ∧ sA (h_X3_settle n c s j k).2 (n + cnt c s k) = sA c n
  | 0, _ => ⟨xs, rfl, rfl, rfl⟩
  | k + 1, hk => by
    obtain ⟨x1, x2, x3, x4⟩ := w_loop h b hj hs hc xs k (by omega)
    obtain ⟨y, i1, i2, i3, i4, i5, i6, i7, i8, i9⟩ := re_loop h b hj hs hc k (by omega)
    have B : BD (n + cnt c s k) no nt t (h_X3_settle n c s j k).2 := i6
    have ek := i7 k (Nat.le_refl _) (by omega)
    have ei : i_X3_isInSeries (h_X3_settle n c s j k).2 k s = i_X3_isInSeries c k s := in_cg ek
    rw [h_X3_settle_s, cnt_s, i4]
    by_cases e : i_X3_isInSeries c k s = 0
    · rw [if_pos (ei.trans e), if_pos e]
      exact ⟨x1, x2, x3, x4⟩
    · rw [if_neg (fun e2 => e (ei.symm.trans e2)), if_neg e]
      have h8 : (h_X3_settle n c s j k).2.ci k 8 = 0 := by rw [ek]; exact in_op e
      obtain ⟨s1, s2, s3, s4, _⟩ := w_swap (k := nI k) B (show k < n + cnt c s k by omega) hj h8 x1 rfl
      exact ⟨s1, s2.trans x2, s3.trans x3, s4.trans x4⟩
theorem p_settle {n no nt t : Nat} {c : CC} {o : Int32} (I : IV n no nt t c) (ho : inr o no) :
    f_X3_settle n no c o = (.inr 2, n, c) ∨ ∃ s c', n + s ≤ 40 ∧ f_X3_settle n no c o = (.inl (some (.int (nI s))), n + s, c') ∧ IV (n + s) no nt t c' ∧ c'.ti = c.ti ∧ c'.tj = c.tj ∧ sA c' (n + s) = sA c n ∧ c'.oj (ix o) 3 = 0 := by
  obtain ⟨⟨m, h, b⟩, xs⟩ := I
  obtain ⟨_, e2, b2⟩ := q_settle (o := o) h b
  have hn := b.1.1
  have hj := re_inl (show no ≤ 600 by have := b.1.2.1; omega) ho
  have hs := re_setr (n := n) (c := c) (j := ix o)
  have hcn := re_cnn (c := c) (s := f_X3_seriesToSwap n c (ix o)) n
  have hsum : (nI n + nI (cnt c (f_X3_seriesToSwap n c (ix o)) n) : Int32) ≤ 40 ↔ n + cnt c (f_X3_seriesToSwap n c (ix o)) n ≤ 40 := by
    rw [re_ile, re_iadd (by rw [re_nI (by omega), re_nI (by omega)]; omega) (by rw [re_nI (by omega), re_nI (by omega)]; omega), re_nI (by omega), re_nI (by omega), show (40 : Int32).toInt = 40 from rfl]
    omega
  by_cases hc : n + cnt c (f_X3_seriesToSwap n c (ix o)) n ≤ 40
  · right
    have e : f_X3_settle n no c o = (.inl (some (.int (nI (cnt c (f_X3_seriesToSwap n c (ix o)) n)))), n + cnt c (f_X3_seriesToSwap n c (ix o)) n, f_X1_forgetVotes (h_X3_settle n c (f_X3_seriesToSwap n c (ix o)) (ix o) n).2 (ix o)) := by
      unfold f_X3_settle
      rw [if_pos ho, g_cnt, if_pos (hsum.mpr hc), (h_inv (Nat.le_refl _)).1]
    rw [e] at e2 b2
    obtain ⟨x1, x2, x3, x4⟩ := w_loop h b hj hs hc xs n (Nat.le_refl _)
    exact ⟨_, _, hc, e, ⟨⟨_, e2, b2⟩, x1⟩, x2, x3, (sA_cg (by rfl) _).trans x4, re_up1⟩
  · left
    unfold f_X3_settle
    rw [if_pos ho, g_cnt, if_neg (fun e => hc (hsum.mp e))]
theorem p_settle0 {n no nt t : Nat} {c : CC} {o : Int32} (I : IV n no nt t c) (ho : inr o no) (hj : c.oj (ix o) 3 = 0) :
    ∃ c', f_X3_settle n no c o = (.inl (some (.int 0)), n, c') ∧ IV n no nt t c' ∧ c'.ti = c.ti ∧ c'.tj = c.tj ∧ sA c' n = sA c n ∧ f_X3_arePooled n c' (ix o) = 0 := by
  obtain ⟨⟨m, h, b⟩, xs⟩ := I
  obtain ⟨_, e2, b2⟩ := q_settle (o := o) h b
  have e := v_settle b ho hj
  rw [e] at e2 b2
  exact ⟨_, e, ⟨⟨_, e2, b2⟩, xs.kp ⟨⟨rfl, rfl⟩, fun i _ => ⟨rfl, rfl, rfl, rfl⟩⟩⟩, rfl, rfl, sA_cg (by rfl) n, v_pool b2 re_up1⟩
theorem p_why {n : Nat} {c : CC} (h : ¬ f_X3_reasonToFail n c = 0) : f_X3_reasonToFail n c = 1 ∨ f_X3_reasonToFail n c = 2 ∨ f_X3_reasonToFail n c = 3 := by
  have : f_X3_reasonToFail n c = 0 ∨ f_X3_reasonToFail n c = 1 ∨ f_X3_reasonToFail n c = 2 ∨ f_X3_reasonToFail n c = 3 := by
    unfold f_X3_reasonToFail
    repeat' split
    all_goals first | exact Or.inl rfl | exact Or.inr (Or.inl rfl) | exact Or.inr (Or.inr (Or.inl rfl)) | exact Or.inr (Or.inr (Or.inr rfl))
  exact this.resolve_left h
theorem p_review {n no nt t : Nat} {c : CC} (I : IV n no nt t c) :
    ((c.ti 13 = 0 ∨ n = 40) ∧ f_X3_review n c = (.inr 2, n, c)) ∨ (∃ v, (v = 1 ∨ v = 2 ∨ v = 3) ∧ f_X3_review n c = (.inl (some (.int v)), n, c)) ∨
    (n < 40 ∧ ∃ c', f_X3_review n c = (.inl (some (.int 0)), n + 1, c') ∧ IV (n + 1) no nt t c' ∧ (∀ k, k ≠ 13 → c'.ti k = c.ti k) ∧ (c'.ti 13).toInt64 = (c.ti 13).toInt64 - 1 ∧ c'.tj 4 = c.tj 4 + (c.ti 11).toInt64 ∧ sA c' (n + 1) = sA c n ∧ c'.cj n 5 = (c.ti 11).toInt64 ∧ (c'.ci n 7).toInt64 = (c.ti 3).toInt64 + 5) := by
  obtain ⟨⟨m, h, b⟩, xs⟩ := I
  obtain ⟨_, e2, b2⟩ := q_review h b
  have hn := b.1.1
  have hty := b.2.1
  obtain ⟨k1, k2⟩ := re_room hn
  by_cases h0 : c.ti 13 = 0
  · exact Or.inl ⟨Or.inl h0, by unfold f_X3_review; rw [if_pos h0]⟩
  · by_cases g7 : n < 40
    · by_cases hz : f_X3_reasonToFail n c = 0
      · right; right
        have eC : (f_X3_payTranche n c).2.2 = (((f_X0_setTerms (c.newc n (clI 4 7 0 (-1) 0) (fun _ => 0)) n (c.ti 11).toInt64 300 (c.ti 3 + 5)).ptj 4 (c.tj 4 + (c.ti 11).toInt64)).pti 13 (c.ti 13 - 1)) := rfl
        have e : f_X3_review n c = (.inl (some (.int 0)), n + 1, (((f_X0_setTerms (c.newc n (clI 4 7 0 (-1) 0) (fun _ => 0)) n (c.ti 11).toInt64 300 (c.ti 3 + 5)).ptj 4 (c.tj 4 + (c.ti 11).toInt64)).pti 13 (c.ti 13 - 1))) := by
          unfold f_X3_review; rw [if_neg h0, if_pos (k1.mpr g7), if_pos hz, eC, hz]
        rw [e] at e2 b2
        have ey : (c.ti 3 + 5).toInt = (c.ti 3).toInt + 5 := by
          rw [re_iadd (by rw [show (5 : Int32).toInt = 5 from rfl]; omega) (by rw [show (5 : Int32).toInt = 5 from rfl]; omega)]; rfl
        have h13 : ¬ (c.ti 13).toInt = 0 := fun e => h0 (re_ieq.mpr e)
        have r13 := xs.1
        have em : (c.ti 13 - 1).toInt = (c.ti 13).toInt - 1 := by
          rw [re_isub (by rw [one32]; omega) (by rw [one32]; omega), one32]
        have xn := p_new (kd := 4) (ld := 7) (rk := 0) (sr := -1) (hd := 0) (p := (c.ti 11).toInt64) (q := 300) (d := c.ti 3 + 5) xs (by omega)
        have x1 := nw_ci (n := n) (c := c) (kd := 4) (ld := 7) (rk := 0) (sr := -1) (hd := 0) (p := (c.ti 11).toInt64) (q := 300) (d := c.ti 3 + 5)
        have x2 := nw_cj (n := n) (c := c) (kd := 4) (ld := 7) (rk := 0) (sr := -1) (hd := 0) (p := (c.ti 11).toInt64) (q := 300) (d := c.ti 3 + 5)
        have xA := p_newA (n := n) (c := c) (kd := 4) (ld := 7) (rk := 0) (sr := -1) (hd := 0) (p := (c.ti 11).toInt64) (q := 300) (d := c.ti 3 + 5)
        refine ⟨g7, _, e, ⟨⟨_, e2, b2⟩, ⟨?_, xn.2⟩⟩, fun k hk => if_neg hk, ?_, rfl, (sA_cg (by rfl) (n + 1)).trans xA, ?_, ?_⟩
        · show 0 ≤ (c.ti 13 - 1).toInt ∧ (c.ti 13 - 1).toInt ≤ 10
          rw [em]; omega
        · show (c.ti 13 - 1).toInt64 = _
          rw [re_eq, re_w, em, re_sub (by rw [re_w, show (1 : Int64).toInt = 1 from rfl]; omega) (by rw [re_w, show (1 : Int64).toInt = 1 from rfl]; omega), re_w]; rfl
        · show (f_X0_setTerms (c.newc n (clI 4 7 0 (-1) 0) (fun _ => 0)) n (c.ti 11).toInt64 300 (c.ti 3 + 5)).cj n 5 = _
          rw [x2]; rfl
        · show ((f_X0_setTerms (c.newc n (clI 4 7 0 (-1) 0) (fun _ => 0)) n (c.ti 11).toInt64 300 (c.ti 3 + 5)).ci n 7).toInt64 = _
          rw [x1]
          show (c.ti 3 + 5).toInt64 = _
          rw [re_eq, re_w, ey, re_add (by rw [re_w, show (5 : Int64).toInt = 5 from rfl]; omega) (by rw [re_w, show (5 : Int64).toInt = 5 from rfl]; omega), re_w]; rfl
      · exact Or.inr (Or.inl ⟨_, p_why hz, by unfold f_X3_review; rw [if_neg h0, if_pos (k1.mpr g7), if_neg hz]⟩)
    · exact Or.inl ⟨Or.inr (by omega), by unfold f_X3_review; rw [if_neg h0, if_neg (fun e => g7 (k1.mp e))]⟩
/-- efforts are no more than a whole -/
theorem g_eff {n no nt t : Nat} {c : CC} (I : IV n no nt t c) {kd : Int32} : ∀ k, k ≤ n → (g_X3_effortOf c kd k).2.toInt ≤ 270 * (g_X3_effortOf c kd k).1.toInt + 2040 * k
  | 0, _ => Int.le_refl _
  | k + 1, hk => by
    have ih := g_eff I (kd := kd) k (by omega)
    have hn := I.b.1.1
    obtain ⟨i1, i2⟩ := re_sum (c := c) (kd := kd) (n := k) (by omega) fun i hi => BG.sum I.b i (by omega)
    obtain ⟨h1, h2⟩ := BG.sum I.b k (by omega)
    have x4 := (I.2.2 k (by omega)).2.2.2
    unfold g_X3_effortOf
    split
    · show ((g_X3_effortOf c kd k).2 + c.cj k 14).toInt ≤ 270 * ((g_X3_effortOf c kd k).1 + c.cj k 13).toInt + 2040 * ((k + 1 : Nat) : Int)
      rw [re_add (by omega) (by omega), re_add (by omega) (by omega)]
      omega
    · show ((g_X3_effortOf c kd k).2).toInt ≤ 270 * ((g_X3_effortOf c kd k).1).toInt + 2040 * ((k + 1 : Nat) : Int)
      omega
theorem p_effort {n no nt t : Nat} {c : CC} (I : IV n no nt t c) {kd : Int32} : f_X3_effortOf n c kd ≤ 10000 := by
  have hn := I.b.1.1
  have hg := g_eff I (kd := kd) n (Nat.le_refl _)
  obtain ⟨⟨i1, i2⟩, i3, i4⟩ := re_sum (c := c) (kd := kd) (n := n) hn fun i hi => BG.sum I.b i hi
  unfold f_X3_effortOf
  generalize (g_X3_effortOf c kd n).1 = A at *
  generalize (g_X3_effortOf c kd n).2 = B at *
  split
  · decide
  · rename_i hA
    have a1 : 1 ≤ A.toInt := by
      have : ¬ A.toInt = 0 := fun e => hA (re_eq.mpr e)
      omega
    have em : (10000 * B).toInt = 10000 * B.toInt := by
      rw [re_mul (by rw [show (10000 : Int64).toInt = 10000 from rfl]; omega) (by rw [show (10000 : Int64).toInt = 10000 from rfl]; omega)]; rfl
    have eq : (f_X3_quotient (10000 * B) A).toInt = 10000 * B.toInt / A.toInt := by rw [re_quot (by omega), em]
    have q0 : 0 ≤ 10000 * B.toInt / A.toInt := Int.ediv_nonneg (by omega) (by omega)
    have q1 : 10000 * B.toInt / A.toInt ≤ 900000000 := by
      refine Int.le_of_lt_add_one (Int.ediv_lt_of_lt_mul (by omega) ?_)
      have : (900000000 + 1) * A.toInt = 900000001 * A.toInt := rfl
      omega
    have es : (10000 - f_X3_quotient (10000 * B) A).toInt = 10000 - 10000 * B.toInt / A.toInt := by
      rw [re_sub (by rw [eq, show (10000 : Int64).toInt = 10000 from rfl]; omega) (by rw [eq, show (10000 : Int64).toInt = 10000 from rfl]; omega), eq]; rfl
    rw [re_ile, Int64.toInt_toInt32, es, show (10000 : Int32).toInt = 10000 from rfl]
    rw [Int.bmod_eq_of_le (by omega) (by omega)]
    omega
