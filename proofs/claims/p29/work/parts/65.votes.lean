/-! THE LAW, 7: offers without a yes, and settle -/
theorem v_w {n no nt t : Nat} {c : CC} (b : BD n no nt t c) {i : Nat} (hi : i < n) {k0 : Int32} : 0 ≤ (i_X3_votingWeight c i k0).toInt ∧ (i_X3_votingWeight c i k0).toInt ≤ 400000000 := by
  have hty := b.2.1
  have h9 : 0 ≤ (c.cj i 5).toInt ∧ 0 ≤ (c.cj i 9).toInt ∧ (c.cj i 5).toInt + (c.cj i 9).toInt ≤ gB (ix (c.ti 3)) := (b.at hi).2.2.2.2.2.2.2.2.2.1
  have hg := gB_le (show ix (c.ti 3) ≤ 60 by rw [re_ix]; omega)
  have ho : (i_X0_owed c i).toInt = (c.cj i 5).toInt + (c.cj i 9).toInt := re_add (by omega) (by omega)
  unfold i_X3_votingWeight
  have z0 : (0 : Int64).toInt = 0 := rfl
  repeat' split
  all_goals omega
theorem v_all {n no nt t : Nat} {c : CC} (b : BD n no nt t c) {k0 : Int32} : ∀ k, k ≤ n → 0 ≤ (g_X3_bondsOwed c k0 k).toInt ∧ (g_X3_bondsOwed c k0 k).toInt ≤ 400000000 * k
  | 0, _ => ⟨Int.le_refl _, Int.le_refl _⟩
  | k + 1, hk => by
    obtain ⟨i1, i2⟩ := v_all b (k0 := k0) k (by omega)
    obtain ⟨w1, w2⟩ := v_w b (show k < n by omega) (k0 := k0)
    have hn := b.1.1
    rw [g_X3_bondsOwed_s, re_add (by omega) (by omega)]
    omega
theorem v_yes {c : CC} {j : Nat} {k0 : Int32} (hj : c.oj j 3 = 0) : ∀ k, k ≤ 40 → g_X3_bondsOwedWithYes c j k0 k = 0
  | 0, _ => rfl
  | k + 1, hk => by
    rw [g_X3_bondsOwedWithYes_s, if_pos (by unfold i_X1_hasYesOf; rw [hj]; exact hb_0 (by omega)), v_yes hj k (by omega)]; rfl
theorem v_maj {n no nt t : Nat} {c : CC} (b : BD n no nt t c) {j : Nat} {k0 pc : Int32} (hj : c.oj j 3 = 0) (h1 : 1 ≤ pc.toInt) (h2 : pc.toInt ≤ 100) : f_X3_hasMajority n c j k0 pc = 0 := by
  have hn := b.1.1
  obtain ⟨a1, a2⟩ := v_all b (k0 := k0) n (Nat.le_refl _)
  unfold f_X3_hasMajority f_X3_bondsOwed f_X3_bondsOwedWithYes
  rw [v_yes hj n hn]
  split
  · rfl
  · rename_i h
    rw [re_le, show (0 : Int64).toInt = 0 from rfl] at h
    generalize g_X3_bondsOwed c k0 n = w at *
    have m1 : w.toInt ≤ pc.toInt * w.toInt := by
      have := Int.mul_le_mul_of_nonneg_right h1 (show 0 ≤ w.toInt by omega)
      omega
    have m2 : pc.toInt * w.toInt ≤ 100 * w.toInt := Int.mul_le_mul_of_nonneg_right h2 (by omega)
    rw [if_pos]
    rw [Int64.zero_mul, re_lt, re_mul (by rw [re_w]; omega) (by rw [re_w]; omega), re_w, show (0 : Int64).toInt = 0 from rfl]
    omega
theorem v_pool {n no nt t : Nat} {c : CC} (b : BD n no nt t c) {j : Nat} (hj : c.oj j 3 = 0) : f_X3_arePooled n c j = 0 := by
  have h0 : g_X3_arePooled n c j 0 = 0 := v_maj b hj (by decide) (by decide)
  have h : ∀ k, g_X3_arePooled n c j k = 0 := by
    intro k
    induction k with
    | zero => exact h0
    | succ k ih => rw [g_X3_arePooled_s, if_pos ih]
  exact h 4
theorem v_set {n no nt t : Nat} {c : CC} (b : BD n no nt t c) {j : Nat} (hj : c.oj j 3 = 0) : f_X3_seriesToSwap n c j = 0 := by
  have hm : ∀ k, f_X3_hasMajority n c j (nI k) 75 = 0 := fun k => v_maj b hj (by decide) (by decide)
  have e : f_X3_seriesToSwap n c j = f_X3_withBit (f_X3_withBit (f_X3_withBit (f_X3_withBit 0 (nI 0) 0) (nI 1) 0) (nI 2) 0) (nI 3) 0 := by
    unfold f_X3_seriesToSwap
    rw [g_X3_seriesToSwap_s, if_pos (v_pool b hj), if_pos (hm 3), g_X3_seriesToSwap_s, if_pos (v_pool b hj), if_pos (hm 2), g_X3_seriesToSwap_s, if_pos (v_pool b hj), if_pos (hm 1), g_X3_seriesToSwap_s, if_pos (v_pool b hj), if_pos (hm 0)]
    rfl
  rw [e]; decide
theorem v_ser {n no nt t : Nat} {c : CC} (b : BD n no nt t c) {i : Nat} (hi : i < n) : i_X3_isInSeries c i 0 = 0 := by
  have h3 := (b.at hi).2.2.2.1
  unfold i_X3_isInSeries
  split
  · rename_i h0
    split
    · rfl
    · rw [if_pos]
      have h3' := h3.2 h0
      have hix : ix (c.ci i 3) < 40 := by rw [re_ix]; omega
      have := hb_0 hix
      rw [re_nIix (by rw [re_ile]; exact h3')] at this
      exact this
  · rfl
theorem v_cnt {n no nt t : Nat} {c : CC} (b : BD n no nt t c) : ∀ k, k ≤ n → cnt c 0 k = 0
  | 0, _ => rfl
  | k + 1, hk => by rw [cnt_s, if_pos (v_ser b (by omega)), v_cnt b k (by omega)]
theorem v_h {n no nt t : Nat} {c : CC} (b : BD n no nt t c) {j : Nat} : ∀ k, k ≤ n → h_X3_settle n c 0 j k = (n, c)
  | 0, _ => rfl
  | k + 1, hk => by rw [h_X3_settle_s, v_h b k (by omega), if_pos (v_ser b (by omega))]
/-- a settle without a yes -/
theorem v_settle {n no nt t : Nat} {c : CC} (b : BD n no nt t c) {o : Int32} (ho : inr o no) (hj : c.oj (ix o) 3 = 0) : f_X3_settle n no c o = (.inl (some (.int 0)), n, c.poj (ix o) 3 0) := by
  have hn := b.1.1
  unfold f_X3_settle
  rw [if_pos ho, v_set b hj, g_cnt, v_set b hj, v_cnt b n (Nat.le_refl _), v_h b n (Nat.le_refl _), if_pos]
  · rfl
  · rw [re_ile, show nI 0 = 0 from rfl, Int32.add_zero, re_nI (by omega), show (40 : Int32).toInt = 40 from rfl]; omega
theorem p_offer {n no nt t : Nat} {c : CC} {a q y : Int32} (I : IV n no nt t c) (h1 : rng a 0 99) (h2 : rng q 0 1000) (h3 : rng y 1 30) :
    (no = 12 ∧ f_X3_offer no c a q y = (.inr 2, no, c)) ∨ (no < 12 ∧ ∃ c', f_X3_offer no c a q y = (.inl (some (.int (nI no))), no + 1, c') ∧ IV n (no + 1) nt t c' ∧ c'.ti = c.ti ∧ c'.tj = c.tj ∧ sA c' n = sA c n ∧ f_X3_arePooled n c' no = 0) := by
  obtain ⟨⟨m, h, b⟩, xs⟩ := I
  obtain ⟨_, e2, b2⟩ := q_offer (a := a) (q := q) (y := y) h b
  have hn := b.1.2.1
  have hc := (re_cut2 (n := no) (N := 12) hn (by decide) (L := 12) rfl).1
  by_cases h12 : no < 12
  · have e : f_X3_offer no c a q y = (.inl (some (.int (nI no))), no + 1, c.addo no (ofI a q y) (pJ (fun _ => 0) 3 0)) := by
      unfold f_X3_offer; rw [if_pos h1, if_pos h2, if_pos h3, if_pos (hc.mpr h12), (re_cnt (show no < 600 by omega)).1]
    rw [e] at e2 b2
    refine Or.inr ⟨h12, _, e, ⟨⟨_, e2, b2⟩, xs.kp ⟨⟨rfl, rfl⟩, fun i _ => ⟨rfl, rfl, rfl, rfl⟩⟩⟩, rfl, rfl, sA_cg (by rfl) n, v_pool b2 ?_⟩
    show upr c.oj no (pJ (fun _ => 0) 3 0) no 3 = 0
    rw [upr_self]; rfl
  · exact Or.inl ⟨by omega, by unfold f_X3_offer; rw [if_pos h1, if_pos h2, if_pos h3, if_neg (fun e => h12 (hc.mp e))]⟩
