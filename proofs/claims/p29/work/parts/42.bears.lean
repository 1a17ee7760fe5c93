/-! THE RELATION, 6: the bearable debt -/
theorem re_brg {c : CC} {m : MC} {x : Int64} (h5 : m.ti 5 = c.ti 7) (hx : 0 ≤ x.toInt) (hx2 : x.toInt ≤ 6000000000) (hb : -200 ≤ (c.ti 7).toInt) (hb2 : (c.ti 7).toInt ≤ 200) :
    f_X4_down (x * ((m.ti 5 : Int32).toInt64)) 1000 = f_X3_broughtBy c x ∧ -1200000000 ≤ (f_X3_broughtBy c x).toInt ∧ (f_X3_broughtBy c x).toInt ≤ 1200000000 := by
  unfold f_X3_broughtBy
  rw [re_down (by decide), h5]
  have m1 : x.toInt * (c.ti 7).toInt ≤ x.toInt * 200 := Int.mul_le_mul_of_nonneg_left hb2 hx
  have m2 : x.toInt * (-200) ≤ x.toInt * (c.ti 7).toInt := Int.mul_le_mul_of_nonneg_left hb hx
  have em : (x * ((c.ti 7 : Int32).toInt64)).toInt = x.toInt * (c.ti 7).toInt := by
    rw [re_mul (by rw [re_w]; omega) (by rw [re_w]; omega), re_w]
  refine ⟨rfl, ?_, ?_⟩
  · rw [re_quot (by decide), em, show (1000 : Int64).toInt = 1000 from rfl]; omega
  · rw [re_quot (by decide), em, show (1000 : Int64).toInt = 1000 from rfl]; omega
theorem re_grw {c : CC} {m : MC} {x : Int64} {k : Nat} (h4 : m.ti 4 = c.ti 6) (hk : k ≤ 89) (hx : gL k ≤ x.toInt) (hx2 : x.toInt ≤ gB k) (hb : -1000 ≤ (c.ti 6).toInt) (hb2 : (c.ti 6).toInt ≤ 1000) :
    x + f_X4_down (x * ((m.ti 4 : Int32).toInt64)) 10000 = f_X3_grown c x ∧ gL (k + 1) ≤ (f_X3_grown c x).toInt ∧ (f_X3_grown c x).toInt ≤ gB (k + 1) := by
  unfold f_X3_grown
  rw [re_down (by decide), h4]
  have hg := gB_le9 (show k ≤ 90 by omega)
  have hl := gL_ge (show k ≤ 90 by omega)
  have m1 : x.toInt * (c.ti 6).toInt ≤ x.toInt * 1000 := Int.mul_le_mul_of_nonneg_left hb2 (by omega)
  have m2 : x.toInt * (-1000) ≤ x.toInt * (c.ti 6).toInt := Int.mul_le_mul_of_nonneg_left hb (by omega)
  have em : (x * ((c.ti 6 : Int32).toInt64)).toInt = x.toInt * (c.ti 6).toInt := by
    rw [re_mul (by rw [re_w]; omega) (by rw [re_w]; omega), re_w]
  have eq : (f_X3_quotient (x * ((c.ti 6 : Int32).toInt64)) 10000).toInt = x.toInt * (c.ti 6).toInt / 10000 := by
    rw [re_quot (by decide), em, show (10000 : Int64).toInt = 10000 from rfl]
  have ea : (x + f_X3_quotient (x * ((c.ti 6 : Int32).toInt64)) 10000).toInt = x.toInt + x.toInt * (c.ti 6).toInt / 10000 := by
    rw [re_add (by rw [eq]; omega) (by rw [eq]; omega), eq]
  refine ⟨rfl, ?_, ?_⟩
  · rw [ea, show gL (k + 1) = gL k * 9000 / 10000 from rfl]; omega
  · rw [ea, show gB (k + 1) = gB k * 11000 / 10000 from rfl]; omega
theorem re_then {n : Nat} {c : CC} {m : MC} {y : Nat} (hy : y ≤ 60) (h3 : m.tj 3 = c.tj 5) (h4 : m.ti 4 = c.ti 6) (hx : gL y ≤ (c.tj 5).toInt) (hx2 : (c.tj 5).toInt ≤ gB y) (hb : -1000 ≤ (c.ti 6).toInt) (hb2 : (c.ti 6).toInt ≤ 1000) :
    ∀ k, k ≤ 30 → gL (y + k) ≤ (g_X4_isBearable n m k).2.1.toInt ∧ (g_X4_isBearable n m k).2.1.toInt ≤ gB (y + k)
  | 0, _ => by show gL y ≤ (m.tj 3).toInt ∧ (m.tj 3).toInt ≤ gB y; rw [h3]; exact ⟨hx, hx2⟩
  | k + 1, hk => by
    obtain ⟨i1, i2⟩ := re_then (n := n) hy h3 h4 hx hx2 hb hb2 k (by omega)
    obtain ⟨g1, g2, g3⟩ := re_grw (m := m) h4 (show y + k ≤ 89 by omega) i1 i2 hb hb2
    have e : (g_X4_isBearable n m (k + 1)).2.1 = f_X3_grown c (g_X4_isBearable n m k).2.1 := by
      rw [← g1]
      conv => lhs; unfold g_X4_isBearable
      repeat' split
      all_goals rfl
    rw [e]; exact ⟨g2, g3⟩
theorem re_debtb {n no nt t : Nat} {yf : Nat → Nat} {c : CC} (b : BG n no nt t yf c) (hyf : ∀ i, i < n → yf i ≤ 60) : ∀ k, k ≤ n → 0 ≤ (g_X3_debt c k).toInt ∧ (g_X3_debt c k).toInt ≤ 400000000 * k
  | 0, _ => ⟨Int.le_refl _, Int.le_refl _⟩
  | k + 1, hk => by
    obtain ⟨i1, i2⟩ := re_debtb b hyf k (by omega)
    have h9 := (b.2.2.2.2.2.2.2.2.2.1 k (by omega)).2.2.2.2.2.2.2.2.2.1
    have hg := gB_le (hyf k (by omega))
    have hn : n ≤ 40 := b.1.1
    have ho : (i_X0_owed c k).toInt = (c.cj k 5).toInt + (c.cj k 9).toInt := re_add (by omega) (by omega)
    have ha : (g_X3_debt c k + i_X0_owed c k).toInt = (g_X3_debt c k).toInt + (i_X0_owed c k).toInt := re_add (by omega) (by omega)
    unfold g_X3_debt
    repeat' split
    all_goals first | rw [Int64.add_zero]; omega | rw [ha]; omega
/-- the loops, side by side: as long as it was bearable they hold the same; then it stays unbearable -/
theorem re_bear {n no nt t : Nat} {c : CC} {m : MC} (h : EQ0 n no nt c m) (b : BD n no nt t c) {ys : Nat} (hys : ys ≤ 30) : ∀ k, k ≤ ys →
    ((g_X4_isBearable n m k).2.2 = 1 ∧ e_X3_isBearable n c ys (f_X3_debt n c) (c.tj 5) = e_X3_isBearable n c (ys - k) (g_X4_isBearable n m k).1 (g_X4_isBearable n m k).2.1 ∧ 0 ≤ (g_X4_isBearable n m k).1.toInt ∧ (g_X4_isBearable n m k).1.toInt ≤ 20000000000)
    ∨ ((g_X4_isBearable n m k).2.2 = 0 ∧ e_X3_isBearable n c ys (f_X3_debt n c) (c.tj 5) = 0)
  | 0, _ => by
    obtain ⟨e7, e23, e31, s1, s2, s3, s4, s5, s6, s7, s8, s9, er, nr, eo, ev, eg, ng, eb, ea⟩ := h
    have ht := b.2.1
    have hn : n ≤ 40 := b.1.1
    obtain ⟨d1, d2⟩ := re_debtb b (fun i hi => by rw [re_ix]; omega) n (Nat.le_refl _)
    have e : (g_X4_isBearable n m 0).1 = f_X3_debt n c := re_debt (m := m.pti 0 0) er
    refine Or.inl ⟨rfl, ?_, ?_, ?_⟩
    · rw [e, show (g_X4_isBearable n m 0).2.1 = c.tj 5 from s3]; rfl
    · rw [e]; exact d1
    · rw [e]; unfold f_X3_debt; omega
  | k + 1, hk => by
    have ih := re_bear h b hys k (by omega)
    obtain ⟨e7, e23, e31, s1, s2, s3, s4, s5, s6, s7, s8, s9, er, nr, eo, ev, eg, ng, eb, ea⟩ := h
    obtain ⟨b0, b1, b2, b3, b4, b5, b6, b7, b8, b9, b10, b11⟩ := b
    have hy60 : ix (c.ti 3) ≤ 60 := by rw [re_ix]; omega
    obtain ⟨t1, t2⟩ := re_then (n := n) hy60 s3 s4 b8.1 b8.2 b2.1 b2.2 k (by omega)
    have tg := gB_le9 (show ix (c.ti 3) + k ≤ 90 by omega)
    have tl := gL_ge (show ix (c.ti 3) + k ≤ 90 by omega)
    obtain ⟨w1, w2, w3⟩ := re_brg (m := m) s5 (show 0 ≤ (g_X4_isBearable n m k).2.1.toInt by omega) (by omega) b3.1 b3.2
    obtain ⟨v1, v2, v3⟩ := re_grw (m := m) s4 (show ix (c.ti 3) + k ≤ 89 by omega) t1 t2 b2.1 b2.2
    have vg := gB_le9 (show ix (c.ti 3) + k + 1 ≤ 90 by omega)
    have vl := gL_ge (show ix (c.ti 3) + k + 1 ≤ 90 by omega)
    rcases ih with ⟨f1, f2, f3, f4⟩ | ⟨f1, f2⟩
    · generalize hO : (g_X4_isBearable n m k).1 = o at *
      generalize hM : (g_X4_isBearable n m k).2.1 = u at *
      have m1 : o.toInt * (c.ti 8).toInt ≤ o.toInt * 1500 := Int.mul_le_mul_of_nonneg_left b4.2 f3
      have m2 : 0 ≤ o.toInt * (c.ti 8).toInt := Int.mul_nonneg f3 b4.1
      have em : (o * ((c.ti 8 : Int32).toInt64)).toInt = o.toInt * (c.ti 8).toInt := by
        rw [re_mul (by rw [re_w]; omega) (by rw [re_w]; omega), re_w]
      have eq : f_X3_quotient (o * ((c.ti 8 : Int32).toInt64)) 10000 = o * ((c.ti 8 : Int32).toInt64) / 10000 := re_qdiv (by rw [em]; exact m2) (by decide)
      have eqv : (o * ((c.ti 8 : Int32).toInt64) / 10000).toInt = o.toInt * (c.ti 8).toInt / 10000 := by
        rw [re_div (by rw [em]; exact m2) (by decide), em]; rfl
      have ev1 : (o + o * ((c.ti 8 : Int32).toInt64) / 10000).toInt = o.toInt + o.toInt * (c.ti 8).toInt / 10000 := by
        rw [re_add (by rw [eqv]; omega) (by rw [eqv]; omega), eqv]
      have ev2 : (o + o * ((c.ti 8 : Int32).toInt64) / 10000 - f_X3_broughtBy c u).toInt = o.toInt + o.toInt * (c.ti 8).toInt / 10000 - (f_X3_broughtBy c u).toInt := by
        rw [re_sub (by rw [ev1]; omega) (by rw [ev1]; omega), ev1]
      have hys' : ys - k = (ys - (k + 1)) + 1 := by omega
      generalize hX : o + o * ((c.ti 8 : Int32).toInt64) / 10000 - f_X3_broughtBy c u = x at *
      have ef : e_X3_isBearable n c (ys - k) o u = if (f_J9_max_f86c9 x 0) * 100 ≤ f_X3_grown c u * 120 then e_X3_isBearable n c (ys - (k + 1)) (f_J9_max_f86c9 x 0) (f_X3_grown c u) else 0 := by
        rw [hys']
        show (if (f_J9_max_f86c9 ((o + (f_X3_quotient (o * (((c.ti 8) : Int32).toInt64)) 10000)) - (f_X3_broughtBy c u)) 0) * 100 ≤ _ then _ else _) = _
        rw [eq, hX]
      have egr : (f_X3_grown c u * 120).toInt = (f_X3_grown c u).toInt * 120 := by
        rw [re_mul (by rw [show (120 : Int64).toInt = 120 from rfl]; omega) (by rw [show (120 : Int64).toInt = 120 from rfl]; omega)]; rfl
      have eM : g_X4_isBearable n m (k + 1) = if 0 ≤ x then (if 120 * f_X3_grown c u < 100 * x then (x, f_X3_grown c u, 0) else (x, f_X3_grown c u, 1)) else (if 120 * f_X3_grown c u < 100 * 0 then (0, f_X3_grown c u, 0) else (0, f_X3_grown c u, 1)) := by
        have n1 : ¬ (1 : Int32) = 0 := by decide
        conv => lhs; unfold g_X4_isBearable
        simp only [hO, hM, f1, w1, v1, s6, hX, if_neg n1]
      by_cases hx0 : 0 ≤ x
      · have hxi : 0 ≤ x.toInt := re_le.mp hx0
        have emx : f_J9_max_f86c9 x 0 = x := by
          unfold f_J9_max_f86c9; rw [if_neg]; intro h; have := re_lt.mp h; rw [show (0 : Int64).toInt = 0 from rfl] at this; omega
        have ex100 : (x * 100).toInt = x.toInt * 100 := by
          rw [re_mul (by rw [show (100 : Int64).toInt = 100 from rfl]; omega) (by rw [show (100 : Int64).toInt = 100 from rfl]; omega)]; rfl
        rw [eM, if_pos hx0, Int64.mul_comm 120, Int64.mul_comm 100]
        rw [emx] at ef
        by_cases hc : x * 100 ≤ f_X3_grown c u * 120
        · have hc2 : ¬ f_X3_grown c u * 120 < x * 100 := by rw [re_lt]; rw [re_le] at hc; omega
          rw [if_neg hc2]
          rw [if_pos hc] at ef
          rw [re_le, ex100, egr] at hc
          exact Or.inl ⟨rfl, f2.trans ef, hxi, by show x.toInt ≤ 20000000000; omega⟩
        · have hc2 : f_X3_grown c u * 120 < x * 100 := by rw [re_lt]; rw [re_le] at hc; omega
          rw [if_pos hc2]
          rw [if_neg hc] at ef
          exact Or.inr ⟨rfl, f2.trans ef⟩
      · have emx : f_J9_max_f86c9 x 0 = 0 := by
          unfold f_J9_max_f86c9; rw [if_pos]; rw [re_lt]; rw [re_le] at hx0; omega
        rw [emx] at ef
        have hc : (0 : Int64) * 100 ≤ f_X3_grown c u * 120 := by
          rw [re_le, egr, show ((0 : Int64) * 100).toInt = 0 from rfl]; omega
        have hc2 : ¬ 120 * f_X3_grown c u < 100 * 0 := by
          rw [Int64.mul_comm 120, re_lt, egr, show ((100 : Int64) * 0).toInt = 0 from rfl]; omega
        rw [eM, if_neg hx0, if_neg hc2]
        rw [if_pos hc] at ef
        exact Or.inl ⟨rfl, f2.trans ef, Int.le_refl _, by show (0 : Int) ≤ 20000000000; decide⟩
    · right
      refine ⟨?_, f2⟩
      conv => lhs; unfold g_X4_isBearable
      simp only [f1, if_true]
      split <;> rfl
theorem re_bearable {n no nt t : Nat} {c : CC} {m : MC} (h : EQ0 n no nt c m) (b : BD n no nt t c) {y : Int32} (hy : rng y 1 30) :
    e_X3_isBearable n c (ix y) (f_X3_debt n c) (c.tj 5) = (f_X4_isBearable n m y).1 ∧ (f_X4_isBearable n m y).2 = m.pti 0 0 ∧ ¬ (g_X4_isBearable n m (ix y)).2.1 = 0 := by
  have hy' : ix y ≤ 30 := by
    have := re_ile.mp hy.2
    rw [show (30 : Int32).toInt = 30 from rfl] at this
    rw [re_ix]; omega
  have hr := re_bear h b hy' (ix y) (Nat.le_refl _)
  obtain ⟨e7, e23, e31, s1, s2, s3, s4, s5, s6, s7, s8, s9, er, nr, eo, ev, eg, ng, eb, ea⟩ := h
  have hd : f_X4_debt n (m.pti 0 0) = f_X3_debt n c := re_debt (m := m.pti 0 0) er
  have hn : n ≤ 40 := b.1.1
  have ht := b.2.1
  obtain ⟨d1, d2⟩ := re_debtb b (fun i hi => by rw [re_ix]; omega) n (Nat.le_refl _)
  obtain ⟨b0, b1, b2, b3, b4, b5, b6, b7, b8, b9, b10, b11⟩ := b
  have hy60 : ix (c.ti 3) ≤ 60 := by rw [re_ix]; omega
  obtain ⟨t1, t2⟩ := re_then (n := n) hy60 s3 s4 b8.1 b8.2 b2.1 b2.2 (ix y) hy'
  have tl := gL_ge (show ix (c.ti 3) + ix y ≤ 90 by omega)
  have tl0 := gL_ge (show ix (c.ti 3) ≤ 90 by omega)
  have hth : ¬ (g_X4_isBearable n m (ix y)).2.1 = 0 := by
    intro e; rw [e, show (0 : Int64).toInt = 0 from rfl] at t1; omega
  have hi : ¬ f_X4_isIn y 1 30 = 0 := fun e => (re_in.mp e) hy
  refine ⟨?_, ?_, hth⟩
  · unfold f_X4_isBearable
    rw [if_neg hi, hd, s3]
    rcases hr with ⟨f1, f2, f3, f4⟩ | ⟨f1, f2⟩
    · rw [f1, if_neg (by decide), f2, Nat.sub_self]
      show (if f_X3_burden (f_X3_debt n c) (c.tj 5) < f_X3_burden (g_X4_isBearable n m (ix y)).1 (g_X4_isBearable n m (ix y)).2.1 then (0 : Int32) else 1) = _
      unfold f_X3_burden
      have dd : (f_X3_debt n c).toInt ≤ 400000000 * n := d2
      have dd0 : 0 ≤ (f_X3_debt n c).toInt := d1
      have e6 : (1000000 : Int64).toInt = 1000000 := rfl
      have q1 : (f_X3_debt n c * 1000000).toInt = (f_X3_debt n c).toInt * 1000000 := by
        rw [re_mul (by rw [e6]; omega) (by rw [e6]; omega), e6]
      have q2 : ((g_X4_isBearable n m (ix y)).1 * 1000000).toInt = (g_X4_isBearable n m (ix y)).1.toInt * 1000000 := by
        rw [re_mul (by rw [e6]; omega) (by rw [e6]; omega), e6]
      rw [re_qdiv (by rw [q1]; omega) (by omega), re_qdiv (by rw [q2]; omega) (by omega), Int64.mul_comm 1000000, Int64.mul_comm 1000000]
      split <;> rfl
    · rw [f1, if_pos rfl, f2]
  · unfold f_X4_isBearable
    rw [if_neg hi]
    split
    · rfl
    · split <;> rfl
