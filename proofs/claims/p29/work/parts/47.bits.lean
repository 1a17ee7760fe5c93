/-! THE RELATION, 11: bits -/
theorem sh_s : ∀ i, i < 40 → ((nI i).toInt64 &&& 63) = Int64.ofNat i := by decide
theorem sh_1 : ∀ k, k < 40 → ((1 : Int64) <<< ((nI k).toInt64 &&& 63)).toBitVec = BitVec.twoPow 64 k := by decide
theorem sh_m : ∀ i, i < 40 → (((Int64.ofNat i).toBitVec).smod 64).toNat = i := by decide
theorem bv_1 (x : BitVec 64) : x &&& 1#64 = 1#64 ↔ x.getLsbD 0 = true := by
  constructor
  · intro h
    have := congrArg (fun z => z.getLsbD 0) h
    simpa using this
  · intro h
    apply BitVec.eq_of_getLsbD_eq
    intro i hi
    rw [BitVec.getLsbD_and, BitVec.getLsbD_one]
    by_cases e : i = 0
    · rw [e, h]; rfl
    · simp [e]
theorem hb_iff {y : Int64} {i : Nat} (hi : i < 40) : f_X3_hasBit y (nI i) = if y.toBitVec.getLsbD i then 1 else 0 := by
  unfold f_X3_hasBit
  rw [sh_s i hi]
  have e : ((y >>> Int64.ofNat i) &&& 1 = 1) ↔ y.toBitVec.getLsbD i = true := by
    rw [← Int64.toBitVec_inj, Int64.toBitVec_and, Int64.toBitVec_shiftRight]
    show (y.toBitVec.sshiftRight' ((Int64.ofNat i).toBitVec.smod 64)) &&& 1#64 = 1#64 ↔ _
    rw [bv_1]
    show (y.toBitVec.sshiftRight ((Int64.ofNat i).toBitVec.smod 64).toNat).getLsbD 0 = true ↔ _
    rw [sh_m i hi, BitVec.getLsbD_sshiftRight]
    simp
    intro h
    omega
  simp only [e]
theorem hb_01 {y : Int64} {i : Int32} : f_X3_hasBit y i = 0 ∨ f_X3_hasBit y i = 1 := by
  unfold f_X3_hasBit; split
  · exact Or.inr rfl
  · exact Or.inl rfl
theorem hb_or {y : Int64} {i k : Nat} (hi : i < 40) (hk : k < 40) : f_X3_hasBit (y ||| (1 <<< ((nI k).toInt64 &&& 63))) (nI i) = if i = k then 1 else f_X3_hasBit y (nI i) := by
  rw [hb_iff hi, hb_iff hi, Int64.toBitVec_or, sh_1 k hk, BitVec.getLsbD_or, BitVec.getLsbD_twoPow]
  by_cases e : i = k
  · subst e; simp; omega
  · have e' : ¬ k = i := fun h => e h.symm
    simp [e, e']
theorem hb_an {y : Int64} {i k : Nat} (hi : i < 40) (hk : k < 40) : f_X3_hasBit (y &&& ((1 <<< ((nI k).toInt64 &&& 63)) ^^^ (-1))) (nI i) = if i = k then 0 else f_X3_hasBit y (nI i) := by
  have hm : (-1 : Int64).toBitVec = BitVec.allOnes 64 := by decide
  rw [hb_iff hi, hb_iff hi, Int64.toBitVec_and, Int64.toBitVec_xor, sh_1 k hk, hm, BitVec.getLsbD_and, BitVec.getLsbD_xor, BitVec.getLsbD_twoPow, BitVec.getLsbD_allOnes]
  by_cases e : i = k
  · subst e; simp
  · have e' : ¬ k = i := fun h => e h.symm
    have : i < 64 := by omega
    simp [e, e', this]
theorem hb_0 {i : Nat} (hi : i < 40) : f_X3_hasBit 0 (nI i) = 0 := by
  rw [hb_iff hi]; simp
