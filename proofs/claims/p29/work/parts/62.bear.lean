/-! THE LAW, 4: who owes nothing and could bear two years could bear one -/
theorem p_brg {c : CC} {x : Int64} (hx : 0 ≤ x.toInt) (hx2 : x.toInt ≤ 6000000000) (hb : -200 ≤ (c.ti 7).toInt) (hb2 : (c.ti 7).toInt ≤ 200) :
    (f_X3_broughtBy c x).toInt = x.toInt * (c.ti 7).toInt / 1000 ∧ -1200000000 ≤ x.toInt * (c.ti 7).toInt / 1000 ∧ x.toInt * (c.ti 7).toInt / 1000 ≤ 1200000000 := by
  have m1 : x.toInt * (c.ti 7).toInt ≤ x.toInt * 200 := Int.mul_le_mul_of_nonneg_left hb2 hx
  have m2 : x.toInt * (-200) ≤ x.toInt * (c.ti 7).toInt := Int.mul_le_mul_of_nonneg_left hb hx
  have em : (x * ((c.ti 7 : Int32).toInt64)).toInt = x.toInt * (c.ti 7).toInt := by
    rw [re_mul (by rw [re_w]; omega) (by rw [re_w]; omega), re_w]
  refine ⟨?_, by omega, by omega⟩
  unfold f_X3_broughtBy
  rw [re_quot (by decide), em]; rfl
theorem p_grw {c : CC} {x : Int64} (hx : 0 ≤ x.toInt) (hx2 : x.toInt ≤ 6000000000) (hb : -1000 ≤ (c.ti 6).toInt) (hb2 : (c.ti 6).toInt ≤ 1000) :
    (f_X3_grown c x).toInt = x.toInt + x.toInt * (c.ti 6).toInt / 10000 ∧ x.toInt * (c.ti 6).toInt ≤ x.toInt * 1000 ∧ x.toInt * (-1000) ≤ x.toInt * (c.ti 6).toInt := by
  have m1 : x.toInt * (c.ti 6).toInt ≤ x.toInt * 1000 := Int.mul_le_mul_of_nonneg_left hb2 hx
  have m2 : x.toInt * (-1000) ≤ x.toInt * (c.ti 6).toInt := Int.mul_le_mul_of_nonneg_left hb hx
  have em : (x * ((c.ti 6 : Int32).toInt64)).toInt = x.toInt * (c.ti 6).toInt := by
    rw [re_mul (by rw [re_w]; omega) (by rw [re_w]; omega), re_w]
  have eq : (f_X3_quotient (x * ((c.ti 6 : Int32).toInt64)) 10000).toInt = x.toInt * (c.ti 6).toInt / 10000 := by
    rw [re_quot (by decide), em]; rfl
  refine ⟨?_, m1, m2⟩
  unfold f_X3_grown
  rw [re_add (by rw [eq]; omega) (by rw [eq]; omega), eq]
theorem p_max0 {x : Int64} : (f_J9_max_f86c9 x 0).toInt = if x.toInt < 0 then 0 else x.toInt := by
  unfold f_J9_max_f86c9
  simp only [re_lt, show (0 : Int64).toInt = 0 from rfl]
  split <;> rfl
theorem p_bur {x y : Int64} (hx : 0 ≤ x.toInt) (hx2 : x.toInt ≤ 4000000000) (hy : 0 < y.toInt) : (f_X3_burden x y).toInt = x.toInt * 1000000 / y.toInt := by
  unfold f_X3_burden
  have e : (x * 1000000).toInt = x.toInt * 1000000 := by
    rw [re_mul (by rw [show (1000000 : Int64).toInt = 1000000 from rfl]; omega) (by rw [show (1000000 : Int64).toInt = 1000000 from rfl]; omega)]; rfl
  rw [re_quot hy, e]
theorem p_bear {n no nt t : Nat} {c : CC} (b : BD n no nt t c) (hd : f_X3_debt n c = 0) (h2 : ¬ e_X3_isBearable n c 2 (f_X3_debt n c) (c.tj 5) = 0) : ¬ e_X3_isBearable n c 1 (f_X3_debt n c) (c.tj 5) = 0 := by
  obtain ⟨b0, b1, b2, b3, b4, b5, b6, b7, b8, b9, b10, b11⟩ := b
  have hix : ix (c.ti 3) ≤ 60 := by rw [re_ix]; omega
  have gb0 := gB_le9 (show ix (c.ti 3) ≤ 90 by omega)
  have gl0 := gL_ge (show ix (c.ti 3) ≤ 90 by omega)
  obtain ⟨g1, g2, g3⟩ := re_grw (c := c) (m := mc0.pti 4 (c.ti 6)) (x := c.tj 5) k_s1 (show ix (c.ti 3) ≤ 89 by omega) b8.1 b8.2 b2.1 b2.2
  have gb1 := gB_le9 (show ix (c.ti 3) + 1 ≤ 90 by omega)
  have gl1 := gL_ge (show ix (c.ti 3) + 1 ≤ 90 by omega)
  obtain ⟨w1, w2, w3⟩ := p_brg (c := c) (x := c.tj 5) (by omega) (by omega) b3.1 b3.2
  rw [hd] at h2 ⊢
  have s2 := e_X3_isBearable_s (n := n) (c := c) (o := 0) (m := c.tj 5) (d := 1)
  have s1 := e_X3_isBearable_s (n := n) (c := c) (o := 0) (m := c.tj 5) (d := 0)
  rw [e_X3_isBearable_0] at s1
  generalize hO1 : f_J9_max_f86c9 ((0 + (f_X3_quotient (0 * (((c.ti 8) : Int32).toInt64)) 10000)) - (f_X3_broughtBy c (c.tj 5))) 0 = O1 at s1 s2
  generalize hM1 : f_X3_grown c (c.tj 5) = M1 at s1 s2 g2 g3
  have t2 := e_X3_isBearable_s (n := n) (c := c) (o := O1) (m := M1) (d := 0)
  rw [e_X3_isBearable_0] at t2
  generalize hO2 : f_J9_max_f86c9 ((O1 + (f_X3_quotient (O1 * (((c.ti 8) : Int32).toInt64)) 10000)) - (f_X3_broughtBy c M1)) 0 = O2 at t2
  generalize hM2 : f_X3_grown c M1 = M2 at t2
  have z0 : (0 : Int64).toInt = 0 := rfl
  have q0 : f_X3_quotient (0 * (((c.ti 8) : Int32).toInt64)) 10000 = 0 := by rw [Int64.zero_mul]; decide
  have eO1 : O1.toInt = if 0 - (c.tj 5).toInt * (c.ti 7).toInt / 1000 < 0 then 0 else 0 - (c.tj 5).toInt * (c.ti 7).toInt / 1000 := by
    rw [← hO1, p_max0, q0, Int64.zero_add, re_sub (by rw [w1, z0]; omega) (by rw [w1, z0]; omega), w1, z0]
  have bz : (f_X3_burden 0 (c.tj 5)).toInt = 0 := by rw [p_bur (by decide) (by decide) (by omega), z0, Int.zero_mul, Int.zero_ediv]
  rw [hd] at s1 t2
  change ¬ e_X3_isBearable n c (1 + 1) 0 (c.tj 5) = 0 at h2
  show ¬ e_X3_isBearable n c (0 + 1) 0 (c.tj 5) = 0
  by_cases c1 : O1 * 100 ≤ M1 * 120
  · rw [s2, if_pos c1] at h2
    rw [s1, if_pos c1]
    by_cases hB : 0 ≤ (c.ti 7).toInt
    · have hp : 0 ≤ (c.tj 5).toInt * (c.ti 7).toInt := Int.mul_nonneg (by omega) hB
      have o1 : O1.toInt = 0 := by rw [eO1]; split <;> omega
      rw [if_neg]
      · decide
      · rw [re_lt, bz, p_bur (by omega) (by omega) (by omega), o1, Int.zero_mul, Int.zero_ediv]; omega
    · exfalso
      apply h2
      change e_X3_isBearable n c (0 + 1) O1 M1 = 0
      rw [t2]
      split
      · rename_i c2
        rw [if_pos]
        have o1 : 0 ≤ O1.toInt ∧ O1.toInt ≤ 1200000000 := by rw [eO1]; split <;> omega
        obtain ⟨v1, v2, v3⟩ := p_brg (c := c) (x := M1) (by omega) (by omega) b3.1 b3.2
        have hu : M1.toInt * (c.ti 7).toInt ≤ M1.toInt * (-1) := Int.mul_le_mul_of_nonneg_left (by omega) (by omega)
        have r1 : O1.toInt * (c.ti 8).toInt ≤ O1.toInt * 1500 := Int.mul_le_mul_of_nonneg_left b4.2 o1.1
        have r0 : 0 ≤ O1.toInt * (c.ti 8).toInt := Int.mul_nonneg o1.1 b4.1
        have em : (O1 * ((c.ti 8 : Int32).toInt64)).toInt = O1.toInt * (c.ti 8).toInt := by rw [re_mul (by rw [re_w]; omega) (by rw [re_w]; omega), re_w]
        have eq : (f_X3_quotient (O1 * ((c.ti 8 : Int32).toInt64)) 10000).toInt = O1.toInt * (c.ti 8).toInt / 10000 := by rw [re_quot (by decide), em]; rfl
        have ea : (O1 + f_X3_quotient (O1 * ((c.ti 8 : Int32).toInt64)) 10000).toInt = O1.toInt + O1.toInt * (c.ti 8).toInt / 10000 := by
          rw [re_add (by rw [eq]; omega) (by rw [eq]; omega), eq]
        have es : (O1 + f_X3_quotient (O1 * ((c.ti 8 : Int32).toInt64)) 10000 - f_X3_broughtBy c M1).toInt = O1.toInt + O1.toInt * (c.ti 8).toInt / 10000 - M1.toInt * (c.ti 7).toInt / 1000 := by
          rw [re_sub (by rw [ea, v1]; omega) (by rw [ea, v1]; omega), ea, v1]
        have eO2 : O2.toInt = O1.toInt + O1.toInt * (c.ti 8).toInt / 10000 - M1.toInt * (c.ti 7).toInt / 1000 := by
          rw [← hO2, p_max0, es, if_neg (by omega)]
        obtain ⟨y1, y2, y3⟩ := p_grw (c := c) (x := M1) (by omega) (by omega) b2.1 b2.2
        rw [hM2] at y1
        rw [re_lt, bz, p_bur (by omega) (by omega) (by omega)]
        have : 1 ≤ O2.toInt * 1000000 / M2.toInt := by
          refine Int.le_ediv_of_mul_le (by omega) ?_
          omega
        omega
      · rfl
  · rw [s2, if_neg c1] at h2
    exact absurd rfl h2
