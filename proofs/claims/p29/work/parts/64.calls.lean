/-! THE LAW, 6: what each call answers and leaves -/
theorem one32 : (1 : Int32).toInt = 1 := rfl
theorem p_now {n no nt t : Nat} {c : CC} (b : BD n no nt t c) {y : Int32} (h : rng y 1 30) : (c.ti 3 + y).toInt = (c.ti 3).toInt + y.toInt ∧ (c.ti 3).toInt < (c.ti 3 + y).toInt := by
  obtain ⟨h1, h2⟩ := rng_b h
  rw [one32] at h1
  rw [show (30 : Int32).toInt = 30 from rfl] at h2
  have := b.2.1
  rw [re_iadd (by omega) (by omega)]
  omega
/-- a new claim's row -/
theorem p_new {n : Nat} {c : CC} {kd ld rk sr hd : Int32} {p : Int64} {q d : Int32} (x : XS n c) (hd' : (c.ti 3).toInt < d.toInt) : XS (n + 1) (f_X0_setTerms (c.newc n (clI kd ld rk sr hd) (fun _ => 0)) n p q d) := by
  refine ⟨x.1, fun i hi => ?_⟩
  by_cases e : i = n
  · subst e
    rw [nw_ci, nw_cj]
    refine ⟨fun h => absurd rfl h, fun _ => rfl, fun _ h => ?_, show ((0 : Int64)).toInt ≤ 270 * ((0 : Int64)).toInt + 2040 by decide⟩
    change d.toInt ≤ (c.ti 3).toInt at h
    omega
  · obtain ⟨e1, e2, _⟩ := nw_ne (c := c) (kd := kd) (ld := ld) (rk := rk) (sr := sr) (hd := hd) (p := p) (q := q) (d := d) e
    rw [e1, e2]; exact x.2 i (by omega)
theorem p_newA {n : Nat} {c : CC} {kd ld rk sr hd : Int32} {p : Int64} {q d : Int32} : sA (f_X0_setTerms (c.newc n (clI kd ld rk sr hd) (fun _ => 0)) n p q d) (n + 1) = sA c n := by
  show sA _ n + (_ + _) = _
  rw [nw_cj, sA_ext (c := c) fun i hi => by rw [(nw_ne (c := c) (kd := kd) (ld := ld) (rk := rk) (sr := sr) (hd := hd) (p := p) (q := q) (d := d) (show i ≠ n by omega)).2.1]; exact ⟨rfl, rfl⟩]
  show sA c n + (0 + 0) = _
  grind
theorem p_claim {n no nt t : Nat} {c : CC} {kd ld p q y rk sr z : Int32} (I : IV n no nt t c) (hz : z = 0 ∨ z = 1) (h1 : rng kd 0 4) (h2 : rng ld 0 7) (h3 : rng p 1 1000000) (h4 : rng q 0 1000) (h5 : rng y 1 30) (h6 : rng rk 0 2) (h7 : (kd = 1 ∧ rng sr 0 3) ∨ (¬ kd = 1 ∧ sr = -1)) :
    (n = 40 ∧ f_X3_claim n c kd ld p q y rk sr z = (.inr 2, n, c)) ∨ (n < 40 ∧ ∃ c', f_X3_claim n c kd ld p q y rk sr z = (.inl (some (.int (nI n))), n + 1, c') ∧ IV (n + 1) no nt t c' ∧ c'.ti = c.ti ∧ c'.tj = c.tj ∧ sA c' (n + 1) = sA c n ∧ c'.ci n 8 = 0 ∧ c'.cj n 5 = p.toInt64 ∧ c'.ci n 12 = -1) := by
  obtain ⟨⟨m, h, b⟩, x⟩ := I
  have hn := b.1.1
  obtain ⟨_, e2, b2⟩ := q_claim (kd := kd) (ld := ld) (p := p) (q := q) (y := y) (rk := rk) (sr := sr) hz h b
  have hR := re_room hn
  have key : f_X3_claim n c kd ld p q y rk sr z = if nI n + 1 ≤ 40 then t_X3_claim n (c.newc n (clI kd ld rk sr z) (fun _ => 0)) p q y else (.inr 2, n, c) := by
    unfold f_X3_claim
    rw [if_pos h1, if_pos h2, if_pos h3, if_pos h4, if_pos h5, if_pos h6]
    rcases h7 with ⟨k1, k2⟩ | ⟨k1, k2⟩
    · rw [if_pos k1, if_pos k1, if_pos k2]
    · rw [if_neg k1, if_neg k1, if_pos (by rw [k2]; decide)]
  by_cases hn4 : n < 40
  · right
    have k2 : f_X3_claim n c kd ld p q y rk sr z = (.inl (some (.int (nI n))), n + 1, f_X0_setTerms (c.newc n (clI kd ld rk sr z) (fun _ => 0)) n p.toInt64 q (c.ti 3 + y)) := by
      rw [key, if_pos (hR.1.mpr hn4)]
      unfold t_X3_claim
      rw [(re_cnt (show n < 600 by omega)).1]
    rw [k2] at e2 b2
    refine ⟨hn4, _, k2, ⟨⟨_, e2, b2⟩, p_new x (p_now b h5).2⟩, rfl, rfl, p_newA, ?_, ?_, ?_⟩
    · rw [nw_ci]; rfl
    · rw [nw_cj]; rfl
    · rw [nw_ci]; rfl
  · exact Or.inl ⟨by omega, by rw [key, if_neg (fun e => hn4 (hR.1.mp e))]⟩
theorem p_pledge {n no nt t : Nat} {c : CC} {k x : Int32} (I : IV n no nt t c) (ht : t < 600) (hk : inr k n) (hx : rng x 1 1000000) :
    ((c.tj 4 < x.toInt64 ∨ ¬ c.ci (ix k) 8 = 0) ∧ f_X3_pledge n c k x = (.inr 2, c)) ∨
    (∃ c', f_X3_pledge n c k x = (.inl (some (.long (c.cj (ix k) 10 + x.toInt64))), c') ∧ IV n no nt (t + 1) c' ∧ c'.ti = c.ti ∧ c'.tj 4 = c.tj 4 - x.toInt64 ∧ sA c' n = sA c n + x.toInt64 ∧ ¬ c.cj (ix k) 10 + x.toInt64 = -2) := by
  obtain ⟨⟨m, h, b⟩, xs⟩ := I
  obtain ⟨_, e2, b2⟩ := q_pledge (k := k) (x := x) h b ht
  have hi := re_inl (show n ≤ 600 by have := b.1.1; omega) hk
  obtain ⟨hx1, hx2⟩ := rng_b hx
  rw [one32] at hx1
  rw [show (1000000 : Int32).toInt = 1000000 from rfl] at hx2
  have h10 := (b.at hi).2.2.2.2.2.2.2.2.2.2.1
  unfold f_X3_pledge at e2 b2 ⊢
  rw [if_pos hk, if_pos hx] at e2 b2 ⊢
  by_cases h8 : c.ci (ix k) 8 = 0
  · rw [if_neg (fun e => (re_open.mp e) h8)] at e2 b2 ⊢
    by_cases h4 : x.toInt64 ≤ c.tj 4
    · rw [if_pos h4] at e2 b2 ⊢
      refine Or.inr ⟨_, rfl, ⟨⟨_, e2, b2⟩, ?_⟩, rfl, rfl, ?_, ?_⟩
      · refine xs.one (i := ix k) rfl rfl (fun j hj => ⟨rfl, h_a2 hj⟩) ?_
        obtain ⟨x1, x2, x3, x4⟩ := xs.2 _ hi
        refine ⟨fun e => absurd h8 e, fun e => (h_a6 (by decide)).trans (x2 e), fun e f => (h_a6 (by decide)).trans (x3 e f), ?_⟩
        rw [h_a6 (by decide), h_a6 (by decide)]; exact x4
      · refine sA_one hi (fun j e => h_a2 e) ?_
        show up2 c.cj (ix k) 10 (c.cj (ix k) 10 + x.toInt64) (ix k) 10 + up2 c.cj (ix k) 10 (c.cj (ix k) 10 + x.toInt64) (ix k) 15 = _
        rw [re_up1, re_upk (by decide)]; grind
      · rw [re_eq, re_add (by rw [re_w]; omega) (by rw [re_w]; omega), re_w, show (-2 : Int64).toInt = -2 from rfl]; omega
    · rw [if_neg h4]
      refine Or.inl ⟨Or.inl ?_, rfl⟩
      rw [re_lt]; rw [re_le] at h4; omega
  · rw [if_pos (re_open.mpr h8)]
    exact Or.inl ⟨Or.inr h8, rfl⟩
theorem p_reveal {n no nt t : Nat} {c : CC} {k : Int32} (I : IV n no nt t c) (hk : inr k n) :
    ∃ c', (f_X3_reveal n c k = (.inr 2, c') ∨ f_X3_reveal n c k = (.inl (some (.long (f_X3_debt n c'))), c')) ∧ IV n no nt t c' ∧ c'.ti = c.ti ∧ c'.tj = c.tj ∧ sA c' n = sA c n ∧ f_X3_reveal n c' k = (.inr 2, c') := by
  have I0 := I
  obtain ⟨⟨m, h, b⟩, xs⟩ := I
  obtain ⟨_, e2, b2⟩ := q_reveal (k := k) h b
  have second : ∀ c1 : CC, c1.ci (ix k) 4 = 0 → f_X3_reveal n c1 k = (.inr 2, c1) := fun c1 h1 => by
    unfold f_X3_reveal; rw [if_pos hk, if_pos h1]
  by_cases h4 : c.ci (ix k) 4 = 0
  · exact ⟨c, Or.inl (second c h4), I0, rfl, rfl, rfl, second c h4⟩
  · have e : f_X3_reveal n c k = (.inl (some (.long (f_X3_debt n (c.pci (ix k) 4 0)))), c.pci (ix k) 4 0) := by
      unfold f_X3_reveal; rw [if_pos hk, if_neg h4]
    rw [e] at e2 b2
    refine ⟨_, Or.inr e, ⟨⟨_, e2, b2⟩, xs.kp ⟨⟨rfl, rfl⟩, fun i _ => ⟨h_b6 (by decide), h_b6 (by decide), h_b6 (by decide), rfl⟩⟩⟩, rfl, rfl, sA_cg (by rfl) n, second _ h_b1⟩
theorem p_economy {n no nt t : Nat} {c : CC} {g u x : Int32} (I : IV n no nt t c) (h1 : rng g (-1000) 1000) (h2 : rng u (-200) 200) (h3 : rng x 0 10000000) :
    ∃ c', f_X3_economy c g u x = (.inl (some (.long (c.tj 4 + x.toInt64))), c') ∧ IV n no nt t c' ∧ c'.ti 7 = u ∧ c'.ti 11 = c.ti 11 ∧ c'.tj 4 = c.tj 4 + x.toInt64 ∧ sA c' n = sA c n := by
  obtain ⟨⟨m, h, b⟩, xs⟩ := I
  obtain ⟨_, e2, b2⟩ := q_economy (g := g) (u := u) (x := x) h b
  have e : f_X3_economy c g u x = (.inl (some (.long (c.tj 4 + x.toInt64))), ((c.pti 6 g).pti 7 u).ptj 4 (c.tj 4 + x.toInt64)) := by
    unfold f_X3_economy; rw [if_pos h1, if_pos h2, if_pos h3]
  rw [e] at e2 b2
  exact ⟨_, e, ⟨⟨_, e2, b2⟩, xs.kp ⟨⟨rfl, rfl⟩, fun i _ => ⟨rfl, rfl, rfl, rfl⟩⟩⟩, rfl, rfl, h_t1, sA_cg (by rfl) n⟩
theorem wb_two {b k z : Int32} : f_X3_withBit (f_X3_withBit b k z) k z = f_X3_withBit b k z := by
  unfold f_X3_withBit
  by_cases h : z = 0
  · simp only [if_pos h]
    rw [Int32.and_assoc, Int32.and_self]
  · simp only [if_neg h]
    rw [Int32.or_assoc, Int32.or_self]
theorem pti_same {c : CC} {k : Nat} {v : Int32} : ((c.pti k v).pti k v) = c.pti k v := by
  have : (fun j => if j = k then v else (if j = k then v else c.ti j)) = (fun j => if j = k then v else c.ti j) := funext fun j => by split <;> rfl
  show ((fun j => if j = k then v else (if j = k then v else c.ti j)), _) = _
  rw [this]
theorem p_moratorium {n no nt t : Nat} {c : CC} {k z : Int32} (I : IV n no nt t c) (hz : z = 0 ∨ z = 1) (hk : inr k 5) :
    ∃ v c', (v = 0 ∨ v = 1) ∧ f_X3_moratorium c k z = (.inl (some (.int v)), c') ∧ IV n no nt t c' ∧ c'.ti 7 = c.ti 7 ∧ c'.ti 11 = c.ti 11 ∧ c'.tj = c.tj ∧ sA c' n = sA c n ∧ f_X3_moratorium c' k z = (.inl (some (.int 0)), c') := by
  obtain ⟨⟨m, h, b⟩, xs⟩ := I
  obtain ⟨_, e2, b2⟩ := q_moratorium (k := k) hz h b
  have e : ∃ v : Int32, (v = 0 ∨ v = 1) ∧ f_X3_moratorium c k z = (.inl (some (.int v)), c.pti 9 (f_X3_withBit (c.ti 9) k z)) := by
    unfold f_X3_moratorium; rw [if_pos hk]
    split
    · exact ⟨0, Or.inl rfl, rfl⟩
    · exact ⟨1, Or.inr rfl, rfl⟩
  obtain ⟨v, hv, e⟩ := e
  rw [e] at e2 b2
  refine ⟨v, _, hv, e, ⟨⟨_, e2, b2⟩, xs.kp ⟨⟨rfl, rfl⟩, fun i _ => ⟨rfl, rfl, rfl, rfl⟩⟩⟩, rfl, rfl, rfl, sA_cg (by rfl) n, ?_⟩
  unfold f_X3_moratorium
  rw [if_pos hk]
  have w : f_X3_withBit ((c.pti 9 (f_X3_withBit (c.ti 9) k z)).ti 9) k z = f_X3_withBit (c.ti 9) k z := wb_two
  have w2 : (c.pti 9 (f_X3_withBit (c.ti 9) k z)).ti 9 = f_X3_withBit (c.ti 9) k z := rfl
  rw [w, w2, if_pos rfl, pti_same]
theorem p_assure {n no nt t : Nat} {c : CC} {k z : Int32} (I : IV n no nt t c) (hz : z = 0 ∨ z = 1) (hk : rng k 0 7) :
    ∃ v c', (v = 0 ∨ v = 1) ∧ f_X3_assure c k z = (.inl (some (.int v)), c') ∧ IV n no nt t c' ∧ c'.ti 7 = c.ti 7 ∧ c'.ti 11 = c.ti 11 ∧ c'.tj = c.tj ∧ sA c' n = sA c n ∧ f_X3_assure c' k z = (.inl (some (.int 0)), c') := by
  obtain ⟨⟨m, h, b⟩, xs⟩ := I
  obtain ⟨_, e2, b2⟩ := q_assure (k := k) hz h b
  have hk0 : ¬ k < 0 := by have := hk.1; rw [re_ile] at this; rw [re_ilt]; omega
  have e : ∃ v : Int32, (v = 0 ∨ v = 1) ∧ f_X3_assure c k z = (.inl (some (.int v)), c.pti 10 (f_X3_withBit (c.ti 10) k z)) := by
    unfold f_X3_assure; rw [if_neg hk0, if_pos hk.2]
    split
    · exact ⟨0, Or.inl rfl, rfl⟩
    · exact ⟨1, Or.inr rfl, rfl⟩
  obtain ⟨v, hv, e⟩ := e
  rw [e] at e2 b2
  refine ⟨v, _, hv, e, ⟨⟨_, e2, b2⟩, xs.kp ⟨⟨rfl, rfl⟩, fun i _ => ⟨rfl, rfl, rfl, rfl⟩⟩⟩, rfl, rfl, rfl, sA_cg (by rfl) n, ?_⟩
  unfold f_X3_assure
  rw [if_neg hk0, if_pos hk.2]
  have w : f_X3_withBit ((c.pti 10 (f_X3_withBit (c.ti 10) k z)).ti 10) k z = f_X3_withBit (c.ti 10) k z := wb_two
  have w2 : (c.pti 10 (f_X3_withBit (c.ti 10) k z)).ti 10 = f_X3_withBit (c.ti 10) k z := rfl
  rw [w, w2, if_pos rfl, pti_same]
theorem p_discount {n no nt t : Nat} {c : CC} {r : Int32} (I : IV n no nt t c) (hr : rng r 0 1500) :
    ∃ c', f_X3_discount c r = (.inl (some (.int (c.ti 8))), c') ∧ 0 ≤ c.ti 8 ∧ IV n no nt t c' ∧ c'.ti 7 = c.ti 7 ∧ c'.ti 11 = c.ti 11 ∧ c'.tj = c.tj ∧ sA c' n = sA c n := by
  obtain ⟨⟨m, h, b⟩, xs⟩ := I
  obtain ⟨_, e2, b2⟩ := q_discount (r := r) h b
  have e : f_X3_discount c r = (.inl (some (.int (c.ti 8))), c.pti 8 r) := by
    unfold f_X3_discount; rw [if_pos hr]
  rw [e] at e2 b2
  exact ⟨_, e, by rw [re_ile]; exact b.2.2.2.2.1.1, ⟨⟨_, e2, b2⟩, xs.kp ⟨⟨rfl, rfl⟩, fun i _ => ⟨rfl, rfl, rfl, rfl⟩⟩⟩, rfl, rfl, rfl, sA_cg (by rfl) n⟩
theorem p_programme {n no nt t : Nat} {c : CC} {a u r : Int32} (I : IV n no nt t c) (h1 : rng a 1 1000000) (h2 : rng u (-200) 200) (h3 : rng r 1 10) :
    ∃ c', f_X3_programme c a u r = (.inl none, c') ∧ IV n no nt t c' ∧ c'.ti 7 = c.ti 7 ∧ c'.ti 11 = a ∧ c'.ti 13 = r ∧ c'.tj = c.tj ∧ sA c' n = sA c n := by
  obtain ⟨⟨m, h, b⟩, xs⟩ := I
  obtain ⟨_, e2, b2⟩ := q_programme (a := a) (u := u) (r := r) h b
  have e : f_X3_programme c a u r = (.inl none, ((c.pti 11 a).pti 12 u).pti 13 r) := by
    unfold f_X3_programme; rw [if_pos h1, if_pos h2, if_pos h3]
  rw [e] at e2 b2
  have hr : 0 ≤ r.toInt ∧ r.toInt ≤ 10 := by
    obtain ⟨r1, r2⟩ := rng_b h3
    rw [one32] at r1
    rw [show (10 : Int32).toInt = 10 from rfl] at r2
    omega
  exact ⟨_, e, ⟨⟨_, e2, b2⟩, ⟨hr, xs.2⟩⟩, rfl, rfl, rfl, rfl, sA_cg (by rfl) n⟩
theorem p_vote {n no nt t : Nat} {c : CC} {k o z : Int32} (I : IV n no nt t c) (hz : z = 0 ∨ z = 1) (hk : inr k n) (ho : inr o no) :
    ∃ c', (f_X3_vote n no c k o z = (.inr 2, c') ∨ f_X3_vote n no c k o z = (.inl none, c')) ∧ IV n no nt t c' ∧ c'.ti = c.ti ∧ c'.tj = c.tj ∧ sA c' n = sA c n := by
  have I0 := I
  obtain ⟨⟨m, h, b⟩, xs⟩ := I
  obtain ⟨_, e2, b2⟩ := q_vote (k := k) (o := o) hz h b
  by_cases hv : i_X0_isVoter c (ix k) = 0
  · exact ⟨c, Or.inl (by unfold f_X3_vote; rw [if_pos hk, if_pos ho, if_pos hv]), I0, rfl, rfl, rfl⟩
  · have e : f_X3_vote n no c k o z = (.inl none, f_X1_tell c (ix o) k z) := by
      unfold f_X3_vote; rw [if_pos hk, if_pos ho, if_neg hv]
    rw [e] at e2 b2
    have ej : (f_X1_tell c (ix o) k z).ti = c.ti ∧ (f_X1_tell c (ix o) k z).tj = c.tj ∧ (f_X1_tell c (ix o) k z).ci = c.ci ∧ (f_X1_tell c (ix o) k z).cj = c.cj := by
      unfold f_X1_tell; split <;> exact ⟨rfl, rfl, rfl, rfl⟩
    obtain ⟨j1, j2, j3, j4⟩ := ej
    exact ⟨_, Or.inr e, ⟨⟨_, e2, b2⟩, xs.kp ⟨⟨by rw [j1], by rw [j1]⟩, fun i _ => by rw [j3, j4]; exact ⟨rfl, rfl, rfl, rfl⟩⟩⟩, j1, j2, sA_cg j4 n⟩
theorem p_thing {n no nt t : Nat} {c : CC} {v : Int32} (I : IV n no nt t c) (hv : rng v 1 1000000) :
    (nt = 10 ∧ f_X3_thing nt c v = (.inr 2, nt, c)) ∨ (nt < 10 ∧ ∃ c', f_X3_thing nt c v = (.inl (some (.int (nI nt))), nt + 1, c') ∧ IV n no (nt + 1) t c' ∧ c'.ti = c.ti ∧ c'.tj = c.tj ∧ sA c' n = sA c n) := by
  obtain ⟨⟨m, h, b⟩, xs⟩ := I
  obtain ⟨_, e2, b2⟩ := q_thing (v := v) h b
  have hn := b.1.2.2.1
  have hc := (re_cut2 (n := nt) (N := 10) hn (by decide) (L := 10) rfl).1
  by_cases h10 : nt < 10
  · have e : f_X3_thing nt c v = (.inl (some (.int (nI nt))), nt + 1, c.addg nt (thI v)) := by
      unfold f_X3_thing; rw [if_pos hv, if_pos (hc.mpr h10), (re_cnt (show nt < 600 by omega)).1]
    rw [e] at e2 b2
    exact Or.inr ⟨h10, _, e, ⟨⟨_, e2, b2⟩, xs.kp ⟨⟨rfl, rfl⟩, fun i _ => ⟨rfl, rfl, rfl, rfl⟩⟩⟩, rfl, rfl, sA_cg (by rfl) n⟩
  · exact Or.inl ⟨by omega, by unfold f_X3_thing; rw [if_pos hv, if_neg (fun e => h10 (hc.mp e))]⟩
theorem p_sue {n no nt t : Nat} {c : CC} {k : Int32} (I : IV n no nt t c) (hk : inr k n) :
    ((c.ci (ix k) 8 = 0 ∧ 0 < c.cj (ix k) 9 ∧ c.ci (ix k) 11 = 0) ∧ ∃ c', f_X3_sue n c k = (.inl none, c') ∧ IV n no nt t c' ∧ c'.ti = c.ti ∧ c'.tj = c.tj ∧ sA c' n = sA c n ∧ c'.ci (ix k) 11 = 1) ∨
    (¬ (c.ci (ix k) 8 = 0 ∧ 0 < c.cj (ix k) 9 ∧ c.ci (ix k) 11 = 0) ∧ f_X3_sue n c k = (.inr 2, c)) := by
  obtain ⟨⟨m, h, b⟩, xs⟩ := I
  obtain ⟨_, e2, b2⟩ := q_sue (k := k) h b
  have hi := re_inl (show n ≤ 600 by have := b.1.1; omega) hk
  have h9 := (b.at hi).2.2.2.2.2.2.2.2.2.1.2.1
  have hp : 0 < c.cj (ix k) 9 ↔ ¬ c.cj (ix k) 9 = 0 := by
    rw [re_lt, re_eq, show (0 : Int64).toInt = 0 from rfl]; omega
  rw [hp]
  unfold f_X3_sue at e2 b2 ⊢
  rw [if_pos hk] at e2 b2 ⊢
  by_cases h8 : c.ci (ix k) 8 = 0
  · rw [if_neg (fun e => (re_open.mp e) h8)] at e2 b2 ⊢
    by_cases h9 : c.cj (ix k) 9 = 0
    · rw [if_pos h9]; exact Or.inr ⟨fun e => e.2.1 h9, rfl⟩
    · rw [if_neg h9] at e2 b2 ⊢
      by_cases h11 : c.ci (ix k) 11 = 0
      · rw [if_pos h11] at e2 b2 ⊢
        exact Or.inl ⟨⟨h8, h9, h11⟩, _, rfl, ⟨⟨_, e2, b2⟩, xs.kp ⟨⟨rfl, rfl⟩, fun i _ => ⟨h_b6 (by decide), h_b6 (by decide), h_b6 (by decide), rfl⟩⟩⟩, rfl, rfl, sA_cg (by rfl) n, h_b1⟩
      · rw [if_neg h11]; exact Or.inr ⟨fun e => h11 e.2.2, rfl⟩
  · rw [if_pos (re_open.mpr h8)]
    exact Or.inr ⟨fun e => h8 e.1, rfl⟩
