/-! THE RELATION, 5: values, efforts, payments -/
theorem re_vby {m : MC} {p : Int64} {q du r yr : Int32} (hp : 0 ≤ p.toInt) (hp2 : p.toInt ≤ 400000000) (hq : 0 ≤ q.toInt) (hq2 : q.toInt ≤ 1000) (hr : 0 ≤ r.toInt) (hr2 : r.toInt ≤ 1500)
    (hm : m.ti 1 = yr) (hd0 : 0 ≤ du.toInt) (hd1 : du.toInt ≤ 200) (hy0 : 0 ≤ yr.toInt) (hy1 : yr.toInt ≤ 100) (hdy : du.toInt ≤ yr.toInt + 30) :
    f_X4_valueBy m p q du r = f_X3_discounted p q (du - yr) r ∧ 0 ≤ (f_X3_discounted p q (du - yr) r).toInt ∧ (f_X3_discounted p q (du - yr) r).toInt ≤ 4 * p.toInt := by
  have e : (du - yr).toInt = du.toInt - yr.toInt := re_isub (by omega) (by omega)
  have hk : ix (du - yr) ≤ 30 := by rw [re_ix, e]; omega
  obtain ⟨i1, i2, i3, i4⟩ := re_dsc (m := m) (du := du) (ys := du - yr) hp (by omega) hq hq2 hr hr2 (ix (du - yr)) hk
  unfold f_X4_valueBy f_X3_discounted
  rw [hm]
  refine ⟨i1.symm, i3, ?_⟩
  have hkp : ((ix (du - yr) : Nat) : Int) * p.toInt ≤ 30 * p.toInt := Int.mul_le_mul_of_nonneg_right (by omega) hp
  split at i4 <;> omega
theorem re_worth {c : CC} {m : MC} {i : Nat} {r : Int32} (h : ER (c.ci i) (c.cj i) m i) (hm : m.ti 1 = c.ti 3) (hp : 0 ≤ (c.cj i 5).toInt) (ha : 0 ≤ (c.cj i 9).toInt) (hpa : (c.cj i 5).toInt + (c.cj i 9).toInt ≤ 400000000)
    (hq : 0 ≤ (c.ci i 6).toInt) (hq2 : (c.ci i 6).toInt ≤ 1000) (hr : 0 ≤ r.toInt) (hr2 : r.toInt ≤ 1500) (hd0 : 0 ≤ (c.ci i 7).toInt) (hy0 : 0 ≤ (c.ti 3).toInt) (hy1 : (c.ti 3).toInt ≤ 60) (hdy : (c.ci i 7).toInt ≤ (c.ti 3).toInt + 30) :
    f_X4_valueOf m i r = f_X0_worth c i (c.ti 3) r ∧ 0 ≤ (f_X0_worth c i (c.ti 3) r).toInt ∧ (f_X0_worth c i (c.ti 3) r).toInt ≤ 2000000000 := by
  obtain ⟨a0, a1, a2, a3, a4, a5, a6, a7, a8, a9, b0, b1, b2, b3⟩ := h
  obtain ⟨v1, v2, v3⟩ := re_vby (m := m) (yr := c.ti 3) (r := r) (du := c.ci i 7) hp (by omega) hq hq2 hr hr2 hm hd0 (by omega) hy0 (by omega) hdy
  unfold f_X4_valueOf f_X0_worth
  rw [a7, b0, a5, a6, b1, v1]
  by_cases h8 : c.ci i 8 = 0
  · have : ¬ i_X0_isOpen c i = 0 := fun e => (re_open.mp e) h8
    rw [if_pos h8, if_neg this]
    rw [re_add (by omega) (by omega)]
    exact ⟨rfl, by omega, by omega⟩
  · rw [if_neg h8, if_pos (re_open.mpr h8)]
    exact ⟨rfl, by decide, by decide⟩
theorem re_cut {c : CC} {m : MC} {i j : Nat} (h : ER (c.ci i) (c.cj i) m i) (hj : m.ai 24 j = c.oi j 0) (hp : 0 ≤ (c.cj i 5).toInt) (ha : 0 ≤ (c.cj i 9).toInt) (hpa : (c.cj i 5).toInt + (c.cj i 9).toInt ≤ 400000000)
    (hc : 0 ≤ (c.oi j 0).toInt) (hc2 : (c.oi j 0).toInt ≤ 99) : f_X4_cutOf m i j = i_X1_principalFor c j i ∧ 0 ≤ (i_X1_principalFor c j i).toInt ∧ (i_X1_principalFor c j i).toInt ≤ (c.cj i 5).toInt + (c.cj i 9).toInt := by
  obtain ⟨a0, a1, a2, a3, a4, a5, a6, a7, a8, a9, b0, b1, b2, b3⟩ := h
  unfold f_X4_cutOf i_X1_principalFor f_X4_owed i_X0_owed
  rw [b0, b1, hj]
  have e1 : (100 - c.oi j 0 : Int32).toInt = 100 - (c.oi j 0).toInt := by
    rw [re_isub]
    · rfl
    · rw [show (100 : Int32).toInt = 100 from rfl]; omega
    · rw [show (100 : Int32).toInt = 100 from rfl]; omega
  have e2 : (c.cj i 5 + c.cj i 9).toInt = (c.cj i 5).toInt + (c.cj i 9).toInt := re_add (by omega) (by omega)
  have m1 : 0 ≤ ((c.cj i 5).toInt + (c.cj i 9).toInt) * (100 - (c.oi j 0).toInt) := Int.mul_nonneg (by omega) (by omega)
  have m2 : ((c.cj i 5).toInt + (c.cj i 9).toInt) * (100 - (c.oi j 0).toInt) ≤ ((c.cj i 5).toInt + (c.cj i 9).toInt) * 100 := Int.mul_le_mul_of_nonneg_left (by omega) (by omega)
  have e3 : ((c.cj i 5 + c.cj i 9) * (100 - c.oi j 0 : Int32).toInt64).toInt = ((c.cj i 5).toInt + (c.cj i 9).toInt) * (100 - (c.oi j 0).toInt) := by
    rw [re_mul (by rw [e2, re_w, e1]; omega) (by rw [e2, re_w, e1]; omega), e2, re_w, e1]
  rw [re_quot (by decide), e3, show (100 : Int64).toInt = 100 from rfl]
  refine ⟨?_, by omega, by omega⟩
  rw [re_qdiv (by rw [e3]; exact m1) (by decide)]
/-! efforts -/
theorem re_sum {c : CC} {kd : Int32} : ∀ {n : Nat}, n ≤ 40 → (∀ i, i < n → (0 ≤ (c.cj i 13).toInt ∧ (c.cj i 13).toInt ≤ 2000000000) ∧ (0 ≤ (c.cj i 14).toInt ∧ (c.cj i 14).toInt ≤ 2000000000)) →
    (0 ≤ (g_X3_effortOf c kd n).1.toInt ∧ (g_X3_effortOf c kd n).1.toInt ≤ 2000000000 * n) ∧ (0 ≤ (g_X3_effortOf c kd n).2.toInt ∧ (g_X3_effortOf c kd n).2.toInt ≤ 2000000000 * n)
  | 0, _, _ => ⟨⟨Int.le_refl _, Int.le_refl _⟩, ⟨Int.le_refl _, Int.le_refl _⟩⟩
  | n + 1, hn, h => by
    obtain ⟨i1, i2⟩ := re_sum (kd := kd) (n := n) (by omega) fun i hi => h i (by omega)
    obtain ⟨h1, h2⟩ := h n (by omega)
    unfold g_X3_effortOf
    split
    · show (0 ≤ ((g_X3_effortOf c kd n).1 + c.cj n 13).toInt ∧ ((g_X3_effortOf c kd n).1 + c.cj n 13).toInt ≤ 2000000000 * ((n + 1 : Nat) : Int)) ∧ 0 ≤ ((g_X3_effortOf c kd n).2 + c.cj n 14).toInt ∧ ((g_X3_effortOf c kd n).2 + c.cj n 14).toInt ≤ 2000000000 * ((n + 1 : Nat) : Int)
      rw [re_add (by omega) (by omega), re_add (by omega) (by omega)]
      omega
    · show (0 ≤ ((g_X3_effortOf c kd n).1).toInt ∧ ((g_X3_effortOf c kd n).1).toInt ≤ 2000000000 * ((n + 1 : Nat) : Int)) ∧ 0 ≤ ((g_X3_effortOf c kd n).2).toInt ∧ ((g_X3_effortOf c kd n).2).toInt ≤ 2000000000 * ((n + 1 : Nat) : Int)
      omega
theorem BG.sum {n no nt t : Nat} {yf : Nat → Nat} {c : CC} (b : BG n no nt t yf c) : ∀ i, i < n → (0 ≤ (c.cj i 13).toInt ∧ (c.cj i 13).toInt ≤ 2000000000) ∧ (0 ≤ (c.cj i 14).toInt ∧ (c.cj i 14).toInt ≤ 2000000000) := by
  intro i hi
  have := b.2.2.2.2.2.2.2.2.2.1 i hi
  exact ⟨this.2.2.2.2.2.2.2.2.2.2.2.1, this.2.2.2.2.2.2.2.2.2.2.2.2.1⟩
theorem re_effk {n no nt t : Nat} {yf : Nat → Nat} {c : CC} {m : MC} (h : ES n c m) (b : BG n no nt t yf c) {k : Nat} (hk : k < 5) : f_X4_effortOf m k = f_X3_effortOf n c (nI k) := by
  obtain ⟨e1, e2, _⟩ := h k hk
  have hn : n ≤ 40 := b.1.1
  obtain ⟨⟨s1, s2⟩, s3, s4⟩ := re_sum (kd := nI k) hn b.sum
  unfold f_X4_effortOf f_X3_effortOf
  rw [e1, e2]
  generalize (g_X3_effortOf c (nI k) n).1 = x at *
  generalize (g_X3_effortOf c (nI k) n).2 = z at *
  by_cases h0 : x = 0
  · rw [if_pos h0, if_pos h0]
  · have hx : 0 < x.toInt := by
      rcases Int.lt_or_eq_of_le s1 with h1 | h1
      · exact h1
      · exact absurd (re_eq.mpr h1.symm) h0
    have em : ((10000 : Int64) * z).toInt = 10000 * z.toInt := by
      rw [re_mul (by rw [show (10000 : Int64).toInt = 10000 from rfl]; omega) (by rw [show (10000 : Int64).toInt = 10000 from rfl]; omega)]; rfl
    rw [if_neg h0, if_neg h0, re_qdiv (by rw [em]; omega) hx]
theorem re_alike {n no nt t : Nat} {yf : Nat → Nat} {c : CC} {m : MC} (h : ES n c m) (b : BG n no nt t yf c) : ∀ k, k ≤ 4 → g_X4_areAlike m k = g_X3_areAlike n c k
  | 0, _ => rfl
  | k + 1, hk => by
    have ih := re_alike h b k (by omega)
    have h' : ES n c (m.pti 0 0) := h
    unfold g_X4_areAlike g_X3_areAlike
    have e0 : f_X4_effortOf (m.pti 0 0) 0 = f_X3_effortOf n c 0 := re_effk h' b (by decide)
    have e1 : f_X4_effortOf (m.pti 0 0) (k + 1) = f_X3_effortOf n c (nI (k + 1)) := re_effk h' b (by omega)
    have e2 := (h (k + 1) (by omega)).2.2
    have e3 : f_X3_wasSwapped n c (nI (k + 1)) = 0 ↔ m.ai 28 (k + 1) = 0 := e2.symm
    simp only [ih, e0, e1, e3]
/-! payments -/
theorem re_psm {c : CC} {i : Nat} : ∀ k, g_X0_paymentsAdded c i k = psm (c.pay i) k
  | 0 => rfl
  | k + 1 => by unfold g_X0_paymentsAdded psm; rw [re_psm k]
theorem BG.paid {n no nt t : Nat} {yf : Nat → Nat} {c : CC} (b : BG n no nt t yf c) {i : Nat} (hi : i < n) : f_X0_paymentsAdded c i = c.cj i 15 := by
  unfold f_X0_paymentsAdded
  rw [re_psm]
  exact (b.2.2.2.2.2.2.2.2.2.1 i hi).2.2.2.2.2.2.2.2.2.2.2.2.2.2
theorem psm_ext {p q : Nat → Int64} : ∀ {k : Nat}, (∀ i, i < k → p i = q i) → psm p k = psm q k
  | 0, _ => rfl
  | k + 1, h => by unfold psm; rw [psm_ext fun i hi => h i (by omega), h k (by omega)]
theorem psm_put {p : Nat → Int64} {a : Nat} {v : Int64} (h0 : p a = 0) : ∀ {k : Nat}, a < k → psm (fun j => if j = a then v else p j) k = psm p k + v
  | 0, h => absurd h (Nat.not_lt_zero _)
  | k + 1, h => by
    unfold psm
    by_cases e : k = a
    · rw [e, if_pos rfl, h0, Int64.add_zero]
      rw [psm_ext (q := p) fun i hi => if_neg (by omega)]
    · rw [if_neg e, psm_put h0 (by omega)]
      rw [Int64.add_assoc, Int64.add_comm v, Int64.add_assoc]
