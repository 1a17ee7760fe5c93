/-! THE LAW, 2: values: they fall as the rate grows, are no less than the principal at rate 0, and not far below it at any rate -/
theorem v_div {x y d e : Int} (hx : 0 ≤ x) (hxy : x ≤ y) (hd : 0 < d) (hde : d ≤ e) : x / e ≤ y / d := by
  refine Int.le_ediv_of_mul_le hd ?_
  have h1 : 0 ≤ x / e := Int.ediv_nonneg hx (by omega)
  have h2 : x / e * e ≤ x := Int.ediv_mul_le x (by omega)
  have h3 : x / e * d ≤ x / e * e := Int.mul_le_mul_of_nonneg_left hde h1
  omega
theorem v_s {p : Int64} {q r ys : Int32} (hp : 0 ≤ p.toInt) (hp2 : p.toInt ≤ 6000000000) (hq : 0 ≤ q.toInt) (hq2 : q.toInt ≤ 1000) (hr : 0 ≤ r.toInt) (hr2 : r.toInt ≤ 1500) {k : Nat} (hk : k < 30) :
    (g_X3_discounted p q ys r (k + 1)).1.toInt = ((g_X3_discounted p q ys r k).1.toInt + ((if k = 0 then p.toInt else 0) + (f_X3_couponOf p q).toInt)) * 10000 / (10000 + r.toInt) := by
  obtain ⟨i1, i2, i3, i4⟩ := re_dsc (m := mc0) (du := 0) (ys := ys) hp hp2 hq hq2 hr hr2 k (by omega)
  obtain ⟨c1, c2, c3⟩ := re_cpn hp hp2 hq hq2
  have er := re_rate hr hr2
  have e4 : (10000 : Int64).toInt = 10000 := rfl
  have hkp : (k : Int) * p.toInt ≤ 30 * p.toInt := Int.mul_le_mul_of_nonneg_right (by omega) hp
  have hkp0 : 0 ≤ (k : Int) * p.toInt := Int.mul_nonneg (by omega) hp
  show (f_X3_quotient (((g_X3_discounted p q ys r k).1 + (g_X3_discounted p q ys r k).2) * 10000) ((10000 + r : Int32).toInt64)).toInt = _
  generalize (g_X3_discounted p q ys r k).1 = w at *
  generalize (g_X3_discounted p q ys r k).2 = f at *
  generalize f_X3_couponOf p q = cp at *
  have f0 : f.toInt = (if k = 0 then p.toInt else 0) + cp.toInt := by
    rw [i2]; split
    · rw [re_add (by omega) (by omega)]
    · omega
  have f1 : 0 ≤ f.toInt ∧ f.toInt * 10 ≤ 11 * p.toInt := by rw [f0]; split <;> omega
  have w1 : w.toInt * 10 ≤ 40 * p.toInt := by split at i4 <;> omega
  have ea : (w + f).toInt = w.toInt + f.toInt := re_add (by omega) (by omega)
  have em : ((w + f) * 10000).toInt = (w.toInt + f.toInt) * 10000 := by rw [re_mul (by rw [ea, e4]; omega) (by rw [ea, e4]; omega), ea, e4]
  rw [re_quot (by rw [er]; omega), em, er, f0]
theorem v_nn {p : Int64} {q r ys : Int32} (hp : 0 ≤ p.toInt) (hp2 : p.toInt ≤ 6000000000) (hq : 0 ≤ q.toInt) (hq2 : q.toInt ≤ 1000) (hr : 0 ≤ r.toInt) (hr2 : r.toInt ≤ 1500) {k : Nat} (hk : k ≤ 30) : 0 ≤ (g_X3_discounted p q ys r k).1.toInt :=
  (re_dsc (m := mc0) (du := 0) (ys := ys) hp hp2 hq hq2 hr hr2 k hk).2.2.1
theorem v_mono {p : Int64} {q r r' ys : Int32} (hp : 0 ≤ p.toInt) (hp2 : p.toInt ≤ 6000000000) (hq : 0 ≤ q.toInt) (hq2 : q.toInt ≤ 1000) (hr : 0 ≤ r.toInt) (hrr : r.toInt ≤ r'.toInt) (hr2 : r'.toInt ≤ 1500) :
    ∀ k, k ≤ 30 → (g_X3_discounted p q ys r' k).1.toInt ≤ (g_X3_discounted p q ys r k).1.toInt
  | 0, _ => Int.le_refl _
  | k + 1, hk => by
    have ih := v_mono (ys := ys) hp hp2 hq hq2 hr hrr hr2 k (by omega)
    obtain ⟨c1, c2, c3⟩ := re_cpn hp hp2 hq hq2
    have n1 := v_nn (r := r') (ys := ys) hp hp2 hq hq2 (by omega) hr2 (k := k) (by omega)
    rw [v_s hp hp2 hq hq2 (by omega) hr2 (by omega), v_s hp hp2 hq hq2 hr (by omega) (by omega)]
    refine v_div ?_ ?_ (by omega) (by omega)
    · split <;> omega
    · split <;> omega
theorem v_zero {p : Int64} {q r ys : Int32} (hp : 0 ≤ p.toInt) (hp2 : p.toInt ≤ 6000000000) (hq : 0 ≤ q.toInt) (hq2 : q.toInt ≤ 1000) (hr : r.toInt = 0) :
    ∀ k, 1 ≤ k → k ≤ 30 → p.toInt ≤ (g_X3_discounted p q ys r k).1.toInt
  | 0, h, _ => absurd h (by decide)
  | k + 1, _, hk => by
    obtain ⟨c1, c2, c3⟩ := re_cpn hp hp2 hq hq2
    have n1 := v_nn (r := r) (ys := ys) hp hp2 hq hq2 (by omega) (by omega) (k := k) (by omega)
    rw [v_s hp hp2 hq hq2 (by omega) (by omega) (by omega), hr, show (10000 : Int) + 0 = 10000 from rfl]
    by_cases k0 : k = 0
    · rw [if_pos k0]; omega
    · have ih := v_zero (ys := ys) hp hp2 hq hq2 hr k (by omega) (by omega)
      rw [if_neg k0]; omega
def wA : Nat → Int
  | 0 => 1000
  | k + 1 => wA k * 115 / 100 + 1
def wB : Nat → Int
  | 0 => 0
  | k + 1 => wB k + wA (k + 1)
theorem wA_pos : ∀ k, 0 < wA k
  | 0 => by decide
  | k + 1 => by
    have := wA_pos k
    show 0 < wA k * 115 / 100 + 1
    omega
theorem wA_up {a b : Nat} (h : a ≤ b) : wA a ≤ wA b := by
  induction h with
  | refl => exact Int.le_refl _
  | @step k h ih =>
    have := wA_pos k
    show _ ≤ wA k * 115 / 100 + 1
    omega
theorem wB_up {a b : Nat} (h : a ≤ b) : wB a ≤ wB b := by
  induction h with
  | refl => exact Int.le_refl _
  | @step k h ih =>
    have := wA_pos (k + 1)
    show _ ≤ wB k + wA (k + 1)
    omega
theorem wAB : wA 30 ≤ 67000 ∧ wB 30 ≤ 510000 := by decide +kernel
theorem v_low {p : Int64} {q r ys : Int32} (hp : 0 ≤ p.toInt) (hp2 : p.toInt ≤ 6000000000) (hq : 0 ≤ q.toInt) (hq2 : q.toInt ≤ 1000) (hr : 0 ≤ r.toInt) (hr2 : r.toInt ≤ 1500) :
    ∀ k, 1 ≤ k → k ≤ 30 → 1000 * p.toInt ≤ wA k * (g_X3_discounted p q ys r k).1.toInt + wB k
  | 0, h, _ => absurd h (by decide)
  | k + 1, _, hk => by
    obtain ⟨c1, c2, c3⟩ := re_cpn hp hp2 hq hq2
    have n1 := v_nn (r := r) (ys := ys) hp hp2 hq hq2 hr hr2 (k := k) (by omega)
    have n2 := v_nn (r := r) (ys := ys) hp hp2 hq hq2 hr hr2 (k := k + 1) hk
    have es := v_s (ys := ys) hp hp2 hq hq2 hr hr2 (show k < 30 by omega)
    by_cases k0 : k = 0
    · subst k0
      rw [if_pos rfl] at es
      have h0 : (g_X3_discounted p q ys r 0).1.toInt = 0 := rfl
      have hd := v_div (x := p.toInt * 10000) (y := ((g_X3_discounted p q ys r 0).1.toInt + (p.toInt + (f_X3_couponOf p q).toInt)) * 10000) (d := 10000 + r.toInt) (e := 11500) (by omega) (by omega) (by omega) (by omega)
      rw [← es] at hd
      show 1000 * p.toInt ≤ 1151 * _ + 1151
      generalize (g_X3_discounted p q ys r (0 + 1)).1.toInt = D' at *
      omega
    · have ih := v_low (ys := ys) hp hp2 hq hq2 hr hr2 k (by omega) (by omega)
      rw [if_neg k0] at es
      have hd := v_div (x := (g_X3_discounted p q ys r k).1.toInt * 10000) (y := ((g_X3_discounted p q ys r k).1.toInt + (0 + (f_X3_couponOf p q).toInt)) * 10000) (d := 10000 + r.toInt) (e := 11500) (by omega) (by omega) (by omega) (by omega)
      rw [← es] at hd
      have ea : wA (k + 1) = wA k * 115 / 100 + 1 := rfl
      have eb : wB (k + 1) = wB k + wA (k + 1) := rfl
      have p0 := wA_pos k
      generalize (g_X3_discounted p q ys r k).1.toInt = D at *
      generalize (g_X3_discounted p q ys r (k + 1)).1.toInt = D' at *
      have h0 : 20 * D ≤ 23 * (D' + 1) := by omega
      have h1 : wA k * (20 * D) ≤ wA k * (23 * (D' + 1)) := Int.mul_le_mul_of_nonneg_left h0 (by omega)
      have h2 : (23 * wA k) * (D' + 1) ≤ (20 * wA (k + 1)) * (D' + 1) := Int.mul_le_mul_of_nonneg_right (by omega) (by omega)
      have e1 : wA k * (20 * D) = 20 * (wA k * D) := Int.mul_left_comm _ _ _
      have e2 : wA k * (23 * (D' + 1)) = (23 * wA k) * (D' + 1) := by rw [Int.mul_left_comm, Int.mul_assoc]
      have e3 : (20 * wA (k + 1)) * (D' + 1) = 20 * (wA (k + 1) * (D' + 1)) := Int.mul_assoc _ _ _
      have e4 : wA (k + 1) * (D' + 1) = wA (k + 1) * D' + wA (k + 1) := by rw [Int.mul_add, Int.mul_one]
      rw [eb]
      generalize wA k * D = u at *
      generalize wA (k + 1) * D' = v at *
      omega
theorem v_four {p : Int64} {q r ys : Int32} (hp : 0 ≤ p.toInt) (hp2 : p.toInt ≤ 6000000000) (hq : 0 ≤ q.toInt) (hq2 : q.toInt ≤ 1000) (hr : 0 ≤ r.toInt) (hr2 : r.toInt ≤ 1500) {k : Nat} (h1 : 1 ≤ k) (hk : k ≤ 30) :
    4 * p.toInt ≤ 268 * (g_X3_discounted p q ys r k).1.toInt + 2040 := by
  have h := v_low (ys := ys) hp hp2 hq hq2 hr hr2 k h1 hk
  have n := v_nn (r := r) (ys := ys) hp hp2 hq hq2 hr hr2 hk
  have a := wA_up hk
  have b := wB_up hk
  have c := wAB
  have m := Int.mul_le_mul_of_nonneg_right (show wA k ≤ 67000 by omega) n
  omega
