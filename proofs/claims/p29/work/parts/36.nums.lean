/-! THE RELATION, 1: numbers -/
theorem re_add {a b : Int64} (l : -9223372036854775808 ≤ a.toInt + b.toInt) (h : a.toInt + b.toInt ≤ 9223372036854775807) : (a + b).toInt = a.toInt + b.toInt := by
  rw [Int64.toInt_add]; exact Int.bmod_eq_of_le (by omega) (by omega)
theorem re_sub {a b : Int64} (l : -9223372036854775808 ≤ a.toInt - b.toInt) (h : a.toInt - b.toInt ≤ 9223372036854775807) : (a - b).toInt = a.toInt - b.toInt := by
  rw [Int64.toInt_sub]; exact Int.bmod_eq_of_le (by omega) (by omega)
theorem re_mul {a b : Int64} (l : -9223372036854775808 ≤ a.toInt * b.toInt) (h : a.toInt * b.toInt ≤ 9223372036854775807) : (a * b).toInt = a.toInt * b.toInt := by
  rw [Int64.toInt_mul]; exact Int.bmod_eq_of_le (by omega) (by omega)
theorem re_div {a b : Int64} (ha : 0 ≤ a.toInt) (hb : 0 < b.toInt) : (a / b).toInt = a.toInt / b.toInt := by
  have h1 : a.toInt < 9223372036854775808 := Int64.toInt_lt a
  rw [Int64.toInt_div, Int.tdiv_eq_ediv_of_nonneg ha]
  have h2 : 0 ≤ a.toInt / b.toInt := Int.ediv_nonneg ha (by omega)
  have h3 : a.toInt / b.toInt ≤ a.toInt := Int.ediv_le_self _ ha
  exact Int.bmod_eq_of_le (by omega) (by omega)
theorem re_le {a b : Int64} : a ≤ b ↔ a.toInt ≤ b.toInt := Int64.le_iff_toInt_le
theorem re_lt {a b : Int64} : a < b ↔ a.toInt < b.toInt := Int64.lt_iff_toInt_lt
theorem re_eq {a b : Int64} : a = b ↔ a.toInt = b.toInt := Int64.toInt_inj.symm
theorem re_ile {a b : Int32} : a ≤ b ↔ a.toInt ≤ b.toInt := Int32.le_iff_toInt_le
theorem re_ilt {a b : Int32} : a < b ↔ a.toInt < b.toInt := Int32.lt_iff_toInt_lt
theorem re_ieq {a b : Int32} : a = b ↔ a.toInt = b.toInt := Int32.toInt_inj.symm
theorem re_w {a : Int32} : (a.toInt64).toInt = a.toInt := Int32.toInt_toInt64 a
theorem re_iadd {a b : Int32} (l : -2147483648 ≤ a.toInt + b.toInt) (h : a.toInt + b.toInt ≤ 2147483647) : (a + b).toInt = a.toInt + b.toInt := by
  rw [Int32.toInt_add]; exact Int.bmod_eq_of_le (by omega) (by omega)
theorem re_isub {a b : Int32} (l : -2147483648 ≤ a.toInt - b.toInt) (h : a.toInt - b.toInt ≤ 2147483647) : (a - b).toInt = a.toInt - b.toInt := by
  rw [Int32.toInt_sub]; exact Int.bmod_eq_of_le (by omega) (by omega)
theorem re_nI {n : Nat} (h : n < 2147483648) : (nI n).toInt = n := by
  have e : (Int32.size : Int) = 4294967296 := rfl
  have e2 : Int32.size = 4294967296 := rfl
  unfold nI; rw [Int32.toInt_ofNat']; exact Int.bmod_eq_of_le (by omega) (by omega)
theorem re_nIinj {a b : Nat} (ha : a < 2147483648) (hb : b < 2147483648) : nI a = nI b ↔ a = b := by
  rw [re_ieq, re_nI ha, re_nI hb]; omega
theorem re_ix {x : Int32} : (ix x : Nat) = x.toInt.toNat := rfl
theorem re_ixnI {n : Nat} (h : n < 2147483648) : ix (nI n) = n := by
  rw [re_ix, re_nI h]; rfl
theorem re_nIix {x : Int32} (h : 0 ≤ x) : nI (ix x) = x := by
  have h1 : 0 ≤ x.toInt := by rw [re_ile] at h; simpa using h
  have h2 : x.toInt < 2147483648 := Int32.toInt_lt x
  rw [re_ieq, re_nI (by rw [re_ix]; omega), re_ix]; omega
/-- the quotients, rounded down -/
theorem re_xor {a b : Int64} (hb : 0 < b.toInt) : 0 ≤ (a ^^^ b) ↔ 0 ≤ a.toInt := by
  have e : ∀ z : Int64, 0 ≤ z.toInt ↔ z.toBitVec.msb = false := by
    intro z
    rw [show z.toInt = z.toBitVec.toInt from rfl, BitVec.msb_eq_toInt]
    simp
  have hb' : b.toBitVec.msb = false := (e b).mp (by omega)
  rw [re_le, show (0 : Int64).toInt = 0 from rfl, e, e, Int64.toBitVec_xor, BitVec.msb_xor, hb']
  simp
theorem re_tdivneg {x d : Int} (hx : x < 0) (hd : 0 < d) : x / d = if x.tdiv d * d = x then x.tdiv d else x.tdiv d - 1 := by
  have e : x.tdiv d = -((-x) / d) := by
    rw [← Int.tdiv_eq_ediv_of_nonneg (by omega), Int.neg_tdiv]; omega
  have h1 := Int.mul_ediv_add_emod (-x) d
  have h2 := Int.emod_nonneg (-x) (b := d) (by omega)
  have h3 := Int.emod_lt_of_pos (-x) hd
  have h4 := Int.mul_ediv_add_emod x d
  have h5 := Int.emod_nonneg x (b := d) (by omega)
  have h6 := Int.emod_lt_of_pos x hd
  rw [e]
  generalize (-x) / d = q at *
  generalize x / d = p at *
  have key : ∀ z : Int, d * z = 0 → z = 0 := by
    intro z hz
    rcases Int.mul_eq_zero.mp hz with h | h
    · omega
    · exact h
  split
  · rename_i hc
    have h7 : (-x) % d = 0 := by rw [Int.neg_mul, Int.mul_comm] at hc; omega
    have h8 : d * (p + q) + x % d = 0 := by rw [Int.mul_add]; omega
    have h9 : x % d = 0 := by
      have : (x % d) = d * (-(p+q)) := by rw [Int.mul_neg]; omega
      rcases Int.lt_trichotomy (-(p+q)) 0 with h | h | h
      · have := Int.mul_le_mul_of_nonneg_left (show -(p+q) ≤ -1 by omega) (show 0 ≤ d by omega)
        omega
      · rw [h] at this; simpa using this
      · have := Int.mul_le_mul_of_nonneg_left (show 1 ≤ -(p+q) by omega) (show 0 ≤ d by omega)
        omega
    have := key (p + q) (by omega)
    omega
  · rename_i hc
    have h7 : (-x) % d ≠ 0 := fun h => hc (by rw [Int.neg_mul, Int.mul_comm]; omega)
    have h8 : d * (p + q) + x % d + (-x) % d = 0 := by rw [Int.mul_add]; omega
    rcases Int.lt_trichotomy (p + q) (-1) with h | h | h
    · have := Int.mul_le_mul_of_nonneg_left (show p + q ≤ -2 by omega) (show 0 ≤ d by omega)
      omega
    · omega
    · have := Int.mul_le_mul_of_nonneg_left (show 0 ≤ p + q by omega) (show 0 ≤ d by omega)
      omega

theorem re_fdiv {x d : Int64} (hd : 0 < d.toInt) : (f_J9_floorDiv_f86c9 x d).toInt = x.toInt / d.toInt := by
  have lx : -9223372036854775808 ≤ x.toInt := Int64.le_toInt x
  have hx : x.toInt < 9223372036854775808 := Int64.toInt_lt x
  unfold f_J9_floorDiv_f86c9
  simp only [re_xor hd]
  by_cases h0 : 0 ≤ x.toInt
  · rw [if_pos h0, re_div h0 hd]
  · rw [if_neg h0]
    have e : x.toInt.tdiv d.toInt = -((-x.toInt) / d.toInt) := by
      rw [← Int.tdiv_eq_ediv_of_nonneg (by omega), Int.neg_tdiv]; omega
    have q0 : 0 ≤ (-x.toInt) / d.toInt := Int.ediv_nonneg (by omega) (by omega)
    have q1 : (-x.toInt) / d.toInt ≤ -x.toInt := Int.ediv_le_self _ (by omega)
    have hq : (x / d).toInt = x.toInt.tdiv d.toInt := by
      rw [Int64.toInt_div]; exact Int.bmod_eq_of_le (by omega) (by omega)
    have hm : -x.toInt / d.toInt * d.toInt ≤ -x.toInt := Int.ediv_mul_le _ (by omega)
    have hm0 : 0 ≤ -x.toInt / d.toInt * d.toInt := Int.mul_nonneg q0 (by omega)
    have hqd := Int.mul_le_mul_of_nonneg_left (show 1 ≤ d.toInt by omega) q0
    have hps : x.toInt.tdiv d.toInt * d.toInt = -(-x.toInt / d.toInt * d.toInt) := by rw [e, Int.neg_mul]
    have hp : (x / d * d).toInt = x.toInt.tdiv d.toInt * d.toInt := by
      have : (x / d).toInt * d.toInt = -(-x.toInt / d.toInt * d.toInt) := by rw [hq, e, Int.neg_mul]
      rw [re_mul (by omega) (by omega), hq]
    rw [re_tdivneg (by omega) hd]
    by_cases hc : x / d * d = x
    · rw [if_pos hc, hq, if_pos]
      rw [← hp, hc]
    · have hc2 : ¬ x.toInt.tdiv d.toInt * d.toInt = x.toInt := fun h => hc (by rw [re_eq, hp, h])
      rw [if_neg hc, if_neg hc2]
      rw [re_sub, hq]
      · rfl
      · rw [hq, show (1 : Int64).toInt = 1 from rfl]; omega
      · rw [hq, show (1 : Int64).toInt = 1 from rfl]; omega
theorem re_quot {x d : Int64} (hd : 0 < d.toInt) : (f_X3_quotient x d).toInt = x.toInt / d.toInt := by
  unfold f_X3_quotient
  rw [if_neg, re_fdiv hd]
  intro h
  rw [h] at hd
  exact absurd hd (by decide)
theorem re_qdiv {x d : Int64} (hx : 0 ≤ x.toInt) (hd : 0 < d.toInt) : f_X3_quotient x d = x / d := by
  rw [re_eq, re_quot hd, re_div hx hd]
theorem re_down {x d : Int64} (hd : 0 < d.toInt) : f_X4_down x d = f_X3_quotient x d := by
  have lx : -9223372036854775808 ≤ x.toInt := Int64.le_toInt x
  have hx : x.toInt < 9223372036854775808 := Int64.toInt_lt x
  rw [re_eq, re_quot hd]
  unfold f_X4_down
  by_cases h0 : 0 ≤ x.toInt
  · rw [if_pos (by rw [re_le]; exact h0), re_div h0 hd]
  · rw [if_neg (by rw [re_le]; exact h0)]
    have e : x.toInt.tdiv d.toInt = -((-x.toInt) / d.toInt) := by
      rw [← Int.tdiv_eq_ediv_of_nonneg (by omega), Int.neg_tdiv]; omega
    have q0 : 0 ≤ (-x.toInt) / d.toInt := Int.ediv_nonneg (by omega) (by omega)
    have q1 : (-x.toInt) / d.toInt ≤ -x.toInt := Int.ediv_le_self _ (by omega)
    have hq : (x / d).toInt = x.toInt.tdiv d.toInt := by
      rw [Int64.toInt_div]; exact Int.bmod_eq_of_le (by omega) (by omega)
    have hm : -x.toInt / d.toInt * d.toInt ≤ -x.toInt := Int.ediv_mul_le _ (by omega)
    have hm0 : 0 ≤ -x.toInt / d.toInt * d.toInt := Int.mul_nonneg q0 (by omega)
    have hqd := Int.mul_le_mul_of_nonneg_left (show 1 ≤ d.toInt by omega) q0
    have hps : x.toInt.tdiv d.toInt * d.toInt = -(-x.toInt / d.toInt * d.toInt) := by rw [e, Int.neg_mul]
    have hp : (x / d * d).toInt = x.toInt.tdiv d.toInt * d.toInt := by
      have : (x / d).toInt * d.toInt = -(-x.toInt / d.toInt * d.toInt) := by rw [hq, e, Int.neg_mul]
      rw [re_mul (by omega) (by omega), hq]
    rw [re_tdivneg (by omega) hd]
    have hz : x - x / d * d = 0 ↔ x.toInt.tdiv d.toInt * d.toInt = x.toInt := by
      rw [re_eq, re_sub (by rw [hp]; omega) (by rw [hp]; omega), hp, show (0 : Int64).toInt = 0 from rfl]; omega
    simp only [hz]
    split
    · rw [hq]
    · rename_i hc2
      rw [re_sub, hq]
      · rfl
      · rw [hq, show (1 : Int64).toInt = 1 from rfl]; omega
      · rw [hq, show (1 : Int64).toInt = 1 from rfl]; omega
