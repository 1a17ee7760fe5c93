/-! THE RELATION, 4: reviews, values, efforts -/
theorem re_off {c : CC} {i : Nat} : i_X0_isOfficial c i = 0 ↔ ¬ ((c.ci i 0 = 0 ∨ c.ci i 0 = 2) ∧ c.ci i 8 = 0 ∧ c.ci i 4 = 0) := by
  unfold i_X0_isOfficial
  simp only [re_open, ne_eq, ite_not]
  by_cases h0 : c.ci i 0 = 0
  · by_cases h1 : c.ci i 8 = 0 <;> by_cases h2 : c.ci i 4 = 0 <;> simp [h0, h1, h2]
  · by_cases h3 : c.ci i 0 = 2
    · by_cases h1 : c.ci i 8 = 0 <;> by_cases h2 : c.ci i 4 = 0 <;> simp [h0, h1, h2, h3]
    · simp [h0, h3]
theorem re_hfb {c : CC} : ∀ {n : Nat}, g_X3_hasFundArrears c n = 0 ∨ g_X3_hasFundArrears c n = 1
  | 0 => Or.inl rfl
  | n + 1 => by
    unfold g_X3_hasFundArrears
    repeat' split
    all_goals first | exact Or.inl rfl | exact Or.inr rfl
theorem re_fail {c : CC} {m : MC} : ∀ {n : Nat}, (∀ i, i < n → ER (c.ci i) (c.cj i) m i) → (∀ i, i < n → m.ai 37 (ix (c.ci i 1)) = f_X3_hasBit (c.ti 10).toInt64 (c.ci i 1)) → g_X4_failing m n = (g_X3_hasFundArrears c n, g_X3_owedToOfficials c 0 n, g_X3_owedToOfficials c 1 n)
  | 0, _, _ => rfl
  | n + 1, h, hl => by
    have ih := re_fail (n := n) (fun i hi => h i (by omega)) fun i hi => hl i (by omega)
    have hb := hl n (by omega)
    obtain ⟨a0, a1, a2, a3, a4, a5, a6, a7, a8, a9, b0, b1, b2, b3⟩ := h n (by omega)
    have e1 : ¬ (1 : Int32) = 0 := by decide
    unfold g_X4_failing g_X3_hasFundArrears g_X3_owedToOfficials f_X4_owed i_X0_owed
    simp only [ih, a0, a1, a4, a7, b0, b1, hb, re_off, re_open, if_true, if_neg e1, ne_eq, ite_not]
    have hF := re_hfb (c := c) (n := n)
    by_cases h8 : c.ci n 8 = 0
    · simp only [h8, if_true, true_and]
      by_cases h4 : c.ci n 4 = 0
      · by_cases k0 : c.ci n 0 = 0
        · have k4 : ¬ c.ci n 0 = 4 := by rw [k0]; decide
          simp only [h4, k0, if_true, true_or, true_and]
          rcases hF with hF | hF <;> by_cases hbt : f_X3_hasBit (c.ti 10).toInt64 (c.ci n 1) = 0 <;> simp [hF, hbt]
        · by_cases k2 : c.ci n 0 = 2
          · simp only [h4, k2, if_true, or_true, true_and]
            rcases hF with hF | hF <;> by_cases hbt : f_X3_hasBit (c.ti 10).toInt64 (c.ci n 1) = 0 <;> simp [hF, hbt]
          · simp only [h4, k0, k2, if_false, or_self, false_and, if_true, not_false_eq_true]
            rcases hF with hF | hF <;> by_cases hbt : f_X3_hasBit (c.ti 10).toInt64 (c.ci n 1) = 0 <;> by_cases k4 : c.ci n 0 = 4 <;> by_cases ha : c.cj n 9 ≤ 0 <;> simp [hF, hbt, k4, ha]
      · simp only [h4, if_false, and_false, not_false_eq_true, if_true, ite_self]
        rcases hF with hF | hF <;> by_cases hbt : f_X3_hasBit (c.ti 10).toInt64 (c.ci n 1) = 0 <;> by_cases k4 : c.ci n 0 = 4 <;> by_cases ha : c.cj n 9 ≤ 0 <;> simp [hF, hbt, k4, ha]
    · simp only [h8, if_false, false_and, and_false, not_false_eq_true, if_true, ite_self]
      rcases hF with hF | hF <;> by_cases hbt : f_X3_hasBit (c.ti 10).toInt64 (c.ci n 1) = 0 <;> by_cases k4 : c.ci n 0 = 4 <;> by_cases ha : c.cj n 9 ≤ 0 <;> simp [hF, hbt, k4, ha]
theorem re_why {n no nt t : Nat} {yf : Nat → Nat} {c : CC} {m : MC} (h : EQ0 n no nt c m) (b : BG n no nt t yf c) : f_X4_failing n m = f_X3_reasonToFail n c := by
  obtain ⟨e7, e23, e31, s1, s2, s3, s4, s5, s6, s7, s8, s9, er, nr, eo, ev, eg, ng, eb, ea⟩ := h
  have hl : ∀ i, i < n → m.ai 37 (ix (c.ci i 1)) = f_X3_hasBit (c.ti 10).toInt64 (c.ci i 1) := by
    intro i hi
    have hL := (b.2.2.2.2.2.2.2.2.2.1 i hi).2.1
    have h0 : 0 ≤ c.ci i 1 := by rw [re_ile]; exact hL.1
    rw [ea (ix (c.ci i 1)) (by rw [re_ix]; omega), re_nIix h0]
  unfold f_X4_failing f_X3_reasonToFail f_X3_hasFundArrears f_X3_owedToOfficials
  rw [re_fail er hl, s5, s8, Int64.mul_comm 2]
/-! values -/
theorem re_cpn {p : Int64} {q : Int32} (hp : 0 ≤ p.toInt) (hp2 : p.toInt ≤ 6000000000) (hq : 0 ≤ q.toInt) (hq2 : q.toInt ≤ 1000) :
    f_X3_couponOf p q = p * q.toInt64 / 10000 ∧ 0 ≤ (f_X3_couponOf p q).toInt ∧ (f_X3_couponOf p q).toInt * 10 ≤ p.toInt := by
  have h1 : 0 ≤ p.toInt * q.toInt := Int.mul_nonneg hp hq
  have h2 : p.toInt * q.toInt ≤ p.toInt * 1000 := Int.mul_le_mul_of_nonneg_left hq2 hp
  have e : (p * q.toInt64).toInt = p.toInt * q.toInt := by rw [re_mul (by rw [re_w]; omega) (by rw [re_w]; omega), re_w]
  have e2 : (10000 : Int64).toInt = 10000 := rfl
  unfold f_X3_couponOf
  rw [re_quot (by decide), e, e2]
  refine ⟨?_, by omega, by omega⟩
  rw [re_qdiv (by rw [e]; exact h1) (by decide)]
theorem re_rate {r : Int32} (h : 0 ≤ r.toInt) (h2 : r.toInt ≤ 1500) : ((10000 + r : Int32).toInt64).toInt = 10000 + r.toInt := by
  rw [re_w, re_iadd]
  · rfl
  · rw [show (10000 : Int32).toInt = 10000 from rfl]; omega
  · rw [show (10000 : Int32).toInt = 10000 from rfl]; omega
theorem re_dsc {m : MC} {p : Int64} {q du r ys : Int32} (hp : 0 ≤ p.toInt) (hp2 : p.toInt ≤ 6000000000) (hq : 0 ≤ q.toInt) (hq2 : q.toInt ≤ 1000) (hr : 0 ≤ r.toInt) (hr2 : r.toInt ≤ 1500) :
    ∀ k, k ≤ 30 → (g_X3_discounted p q ys r k).1 = g_X4_valueBy m p q du r k ∧ (g_X3_discounted p q ys r k).2 = (if k = 0 then p + f_X3_couponOf p q else f_X3_couponOf p q) ∧ 0 ≤ (g_X3_discounted p q ys r k).1.toInt ∧ (g_X3_discounted p q ys r k).1.toInt * 10 ≤ (if k = 0 then 0 else 10 * p.toInt) + k * p.toInt
  | 0, _ => ⟨rfl, rfl, Int.le_refl _, by simp [g_X3_discounted]⟩
  | k + 1, hk => by
    obtain ⟨i1, i2, i3, i4⟩ := re_dsc (m := m) (du := du) (ys := ys) hp hp2 hq hq2 hr hr2 k (by omega)
    obtain ⟨c1, c2, c3⟩ := re_cpn hp hp2 hq hq2
    have hkp : (k : Int) * p.toInt ≤ 30 * p.toInt := Int.mul_le_mul_of_nonneg_right (by omega) hp
    have hkp0 : 0 ≤ (k : Int) * p.toInt := Int.mul_nonneg (by omega) hp
    have hks : ((k + 1 : Nat) : Int) * p.toInt = k * p.toInt + p.toInt := by
      rw [show ((k + 1 : Nat) : Int) = k + 1 from rfl, Int.add_mul]; omega
    have er := re_rate hr hr2
    have e4 : (10000 : Int64).toInt = 10000 := rfl
    generalize hw : (g_X3_discounted p q ys r k).1 = w at *
    generalize hf : (g_X3_discounted p q ys r k).2 = f at *
    have f0 : 0 ≤ f.toInt ∧ f.toInt * 10 ≤ (if k = 0 then 11 * p.toInt else p.toInt) := by
      rw [i2]; split
      · rw [re_add (by omega) (by omega)]; omega
      · omega
    have f1 : f.toInt * 10 ≤ 11 * p.toInt := by
      have := f0.2; split at this <;> omega
    have w1 : w.toInt * 10 ≤ 40 * p.toInt := by
      split at i4 <;> omega
    have ea : (w + f).toInt = w.toInt + f.toInt := re_add (by omega) (by omega)
    have em : ((w + f) * 10000).toInt = (w.toInt + f.toInt) * 10000 := by
      rw [re_mul (by rw [ea, e4]; omega) (by rw [ea, e4]; omega), ea, e4]
    have hq0 : 0 ≤ ((w + f) * 10000).toInt := by rw [em]; omega
    have hd0 : 0 < ((10000 + r : Int32).toInt64).toInt := by rw [er]; omega
    have eu : (g_X3_discounted p q ys r (k + 1)).1 = f_X3_quotient ((w + f) * 10000) ((10000 + r : Int32).toInt64) := by
      show f_X3_quotient (((g_X3_discounted p q ys r k).1 + (g_X3_discounted p q ys r k).2) * 10000) _ = _
      rw [hw, hf]
    have hz : (f_X3_quotient ((w + f) * 10000) ((10000 + r : Int32).toInt64)).toInt = ((w.toInt + f.toInt) * 10000) / (10000 + r.toInt) := by
      rw [re_quot hd0, em, er]
    have hz0 : 0 ≤ ((w.toInt + f.toInt) * 10000) / (10000 + r.toInt) := Int.ediv_nonneg (by omega) (by omega)
    have hz1 : ((w.toInt + f.toInt) * 10000) / (10000 + r.toInt) ≤ w.toInt + f.toInt := by
      refine Int.ediv_le_of_le_mul (by omega) ?_
      have := Int.mul_le_mul_of_nonneg_left (show 10000 ≤ 10000 + r.toInt by omega) (show 0 ≤ w.toInt + f.toInt by omega)
      exact this
    refine ⟨?_, ?_, by rw [eu, hz]; exact hz0, ?_⟩
    · rw [eu, re_qdiv hq0 hd0]
      unfold g_X4_valueBy
      rw [← i1, ← c1]
      by_cases k0 : k = 0
      · rw [if_pos (by rw [k0]; show du - 0 = du; simp), i2, if_pos k0, Int64.add_comm (f_X3_couponOf p q) p]
      · rw [if_neg, i2, if_neg k0, Int64.add_zero]
        intro e
        have : nI k = 0 := by grind
        exact k0 ((re_nIinj (by omega) (by decide)).mp this)
    · show f_X3_couponOf p q = if k + 1 = 0 then _ else _
      rw [if_neg (by omega)]
    · rw [eu, hz, if_neg (by omega), hks]
      have := f0.2
      split at this <;> split at i4 <;> omega
