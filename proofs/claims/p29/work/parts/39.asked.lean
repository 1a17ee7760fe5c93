/-! THE RELATION, 3: what is asked -/
theorem re_in {v l h : Int32} : f_X4_isIn v l h = 0 ↔ ¬ rng v l h := by
  unfold f_X4_isIn rng
  simp only [re_ile, re_ilt]
  by_cases h1 : v.toInt < l.toInt
  · rw [if_pos h1]; exact ⟨fun _ => by omega, fun _ => rfl⟩
  · rw [if_neg h1]
    by_cases h2 : h.toInt < v.toInt
    · rw [if_pos h2]; exact ⟨fun _ => by omega, fun _ => rfl⟩
    · rw [if_neg h2]; exact ⟨fun e => absurd e (by decide), fun e => absurd ⟨by omega, by omega⟩ e⟩
theorem re_in1 {v l h : Int32} : f_X4_isIn v l h = 0 ∨ f_X4_isIn v l h = 1 := by
  unfold f_X4_isIn; split
  · exact Or.inl rfl
  · split
    · exact Or.inl rfl
    · exact Or.inr rfl
theorem re_inn {k : Int32} {n : Nat} (hn : n ≤ 600) : f_X4_isIn k 0 (nI n - 1) = 0 ↔ ¬ inr k n := by
  rw [re_in]
  unfold rng inr
  have e : (nI n - 1).toInt = n - 1 := by
    rw [re_isub, re_nI (by omega)]
    · rfl
    · rw [re_nI (by omega), show (1 : Int32).toInt = 1 from rfl]; omega
    · rw [re_nI (by omega), show (1 : Int32).toInt = 1 from rfl]; omega
  rw [re_ile, re_ile, re_ilt, e, re_nI (by omega)]
  constructor
  · intro h h2; exact h ⟨h2.1, by omega⟩
  · intro h h2; exact h ⟨h2.1, by omega⟩
theorem re_inl {k : Int32} {n : Nat} (hn : n ≤ 600) (h : inr k n) : ix k < n := by
  obtain ⟨h0, h1⟩ := h
  rw [re_ile, show (0 : Int32).toInt = 0 from rfl] at h0
  rw [re_ilt, re_nI (by omega)] at h1
  rw [re_ix]; omega
theorem re_inn2 {k : Int32} {n : Nat} (h : inr k n) : nI (ix k) = k := re_nIix h.1
theorem re_op (x : Int32) : (if x = 0 then (1 : Int32) else 0) = 0 ↔ x ≠ 0 := by
  split
  · rename_i h; exact ⟨fun e => absurd e (by decide), fun e => absurd h e⟩
  · rename_i h; exact ⟨fun _ => h, fun _ => rfl⟩
theorem re_open {c : CC} {i : Nat} : i_X0_isOpen c i = 0 ↔ c.ci i 8 ≠ 0 := re_op _
theorem re_ofst {c : CC} {i : Nat} : i_X0_isOfState c i = 0 ↔ c.ci i 1 ≠ 0 := re_op _
theorem re_debt {c : CC} {m : MC} : ∀ {n : Nat}, (∀ i, i < n → ER (c.ci i) (c.cj i) m i) → g_X4_debt m n = g_X3_debt c n
  | 0, _ => rfl
  | n + 1, h => by
    have ih := re_debt (n := n) fun i hi => h i (by omega)
    obtain ⟨a0, a1, a2, a3, a4, a5, a6, a7, a8, a9, b0, b1, b2, b3⟩ := h n (by omega)
    unfold g_X4_debt g_X3_debt
    unfold f_X4_owed i_X0_owed
    simp only [ih, a7, a4, a1, b0, b1, re_open, re_ofst, ne_eq, ite_not]
theorem re_vot {c : CC} {m : MC} {i : Nat} (h : ER (c.ci i) (c.cj i) m i) : f_X4_isVoter m i = i_X0_isVoter c i := by
  obtain ⟨a0, a1, a2, a3, a4, a5, a6, a7, a8, a9, b0, b1, b2, b3⟩ := h
  unfold f_X4_isVoter i_X0_isVoter
  simp only [a0, a1, a7, re_open, re_ofst, ne_eq, ite_not]
  by_cases h0 : c.ci i 0 = 1 <;> by_cases h1 : c.ci i 1 = 0 <;> by_cases h2 : c.ci i 8 = 0 <;> simp [h0, h1, h2]
theorem re_vt0 {c : CC} {m : MC} {j : Nat} {s : Int32} : ∀ {n : Nat}, (∀ i, i < n → ER (c.ci i) (c.cj i) m i) → g_X4_votes m j s 0 n = g_X3_bondsOwed c s n
  | 0, _ => rfl
  | n + 1, h => by
    have ih := re_vt0 (j := j) (s := s) (n := n) fun i hi => h i (by omega)
    have hv := re_vot (h n (by omega))
    obtain ⟨a0, a1, a2, a3, a4, a5, a6, a7, a8, a9, b0, b1, b2, b3⟩ := h n (by omega)
    unfold g_X4_votes g_X3_bondsOwed
    unfold f_X4_owed i_X3_votingWeight i_X0_owed
    have ec : (c.ci n 3 = s) = (s = c.ci n 3) := propext eq_comm
    simp only [ih, hv, b0, b1, a3, if_true, ec]
    by_cases h0 : i_X0_isVoter c n = 0
    · simp only [h0, if_true]
    · by_cases h1 : s = -1
      · simp only [h0, h1, if_true, if_false]
      · by_cases h2 : s = c.ci n 3
        · simp only [h0, if_neg h1, if_pos h2, if_false]
        · simp only [h0, if_neg h1, if_neg h2, if_false]
theorem re_vt1 {c : CC} {m : MC} {j : Nat} {s : Int32} : ∀ {n : Nat}, (∀ i, i < n → ER (c.ci i) (c.cj i) m i) → (∀ i, i < n → (f_X3_hasBit (c.oj j 3) (nI i) = 0 ↔ m.ai 27 (40 * j + i) ≠ 1)) → g_X4_votes m j s 1 n = g_X3_bondsOwedWithYes c j s n
  | 0, _, _ => rfl
  | n + 1, h, hy => by
    have ih := re_vt1 (j := j) (s := s) (n := n) (fun i hi => h i (by omega)) fun i hi => hy i (by omega)
    have hv := re_vot (h n (by omega))
    have hb := hy n (by omega)
    obtain ⟨a0, a1, a2, a3, a4, a5, a6, a7, a8, a9, b0, b1, b2, b3⟩ := h n (by omega)
    unfold g_X4_votes g_X3_bondsOwedWithYes
    unfold f_X4_owed i_X3_votingWeight i_X0_owed i_X1_hasYesOf
    have e1 : ¬ (1 : Int32) = 0 := by decide
    have ec : (c.ci n 3 = s) = (s = c.ci n 3) := propext eq_comm
    simp only [ih, hv, b0, b1, a3, if_neg e1, ec, hb]
    by_cases h3 : m.ai 27 (40 * j + n) = 1
    · have h3' : ¬ (m.ai 27 (40 * j + n) ≠ 1) := fun h => h h3
      rw [if_neg h3']
      by_cases h0 : i_X0_isVoter c n = 0
      · simp only [h0, if_true]
      · by_cases h1 : s = -1
        · simp only [h0, h1, h3, if_true, if_false]
        · by_cases h2 : s = c.ci n 3
          · simp only [h0, if_neg h1, if_pos h2, if_false, h3, if_true]
          · simp only [h0, if_neg h1, if_neg h2, if_false]
    · rw [if_pos h3]
      simp only [if_neg h3, ite_self]

theorem re_maj {n no nt : Nat} {c : CC} {m : MC} (h : EQ0 n no nt c m) (hn : n ≤ 40) (hno : no ≤ 12) {j : Nat} (hj : j < no) {s p : Int32} : f_X4_isPart n m j s p = f_X3_hasMajority n c j s p := by
  obtain ⟨e7, e23, e31, s1, s2, s3, s4, s5, s6, s7, s8, s9, er, nr, eo, ev, eg, ng, eb, ea⟩ := h
  unfold f_X4_isPart f_X3_hasMajority f_X4_votes f_X3_bondsOwed f_X3_bondsOwedWithYes
  rw [re_vt0 er, re_vt1 er fun i hi => (ev j i (by omega) (by omega)).1 hj, Int64.mul_comm 100]
theorem re_pool0 {n no nt : Nat} {c : CC} {m : MC} (h : EQ0 n no nt c m) (hn : n ≤ 40) (hno : no ≤ 12) {j : Nat} (hj : j < no) : ∀ k, g_X4_arePooled n m j k = g_X3_arePooled n c j k
  | 0 => re_maj h hn hno hj
  | k + 1 => by
    unfold g_X4_arePooled g_X3_arePooled
    rw [re_pool0 h hn hno hj k, re_maj h hn hno hj]
    unfold f_X4_votes f_X3_bondsOwed
    obtain ⟨e7, e23, e31, s1, s2, s3, s4, s5, s6, s7, s8, s9, er, nr, eo, ev, eg, ng, eb, ea⟩ := h
    rw [re_vt0 er]
theorem re_pool {n no nt : Nat} {c : CC} {m : MC} (h : EQ0 n no nt c m) (hn : n ≤ 40) (hno : no ≤ 12) {j : Nat} (hj : j < no) : f_X4_arePooled n m j = f_X3_arePooled n c j := re_pool0 h hn hno hj 4
theorem re_pas {n no nt : Nat} {c : CC} {m : MC} (h : EQ0 n no nt c m) (hn : n ≤ 40) (hno : no ≤ 12) {j : Nat} (hj : j < no) {s : Int32} : f_X4_isPassed n m j s = if s = -1 then f_X3_arePooled n c j else f_X3_hasMajority n c j s 75 := by
  unfold f_X4_isPassed
  rw [re_pool h hn hno hj, re_maj h hn hno hj]
theorem re_majb {n : Nat} {c : CC} {j : Nat} {s p : Int32} : f_X3_hasMajority n c j s p = 0 ∨ f_X3_hasMajority n c j s p = 1 := by
  unfold f_X3_hasMajority; split
  · exact Or.inl rfl
  · split
    · exact Or.inl rfl
    · exact Or.inr rfl
theorem re_set {n no nt : Nat} {c : CC} {m : MC} (h : EQ0 n no nt c m) (hn : n ≤ 40) (hno : no ≤ 12) {j : Nat} (hj : j < no) : f_X4_passed n m j = f_X3_seriesToSwap n c j := by
  unfold f_X4_passed f_X3_seriesToSwap
  have e0 : ¬ nI 0 = -1 := by decide
  have e1 : ¬ nI 1 = -1 := by decide
  have e2 : ¬ nI 2 = -1 := by decide
  have e3 : ¬ nI 3 = -1 := by decide
  rw [re_pool h hn hno hj]
  simp only [g_X4_passed0, g_X4_passed15, g_X3_seriesToSwap, re_pas h hn hno hj, if_neg e0, if_neg e1, if_neg e2, if_neg e3]
  by_cases hp : f_X3_arePooled n c j = 0 <;> by_cases h0 : f_X3_hasMajority n c j (nI 0) 75 = 0 <;> by_cases h1 : f_X3_hasMajority n c j (nI 1) 75 = 0 <;> by_cases h2 : f_X3_hasMajority n c j (nI 2) 75 = 0 <;> by_cases h3 : f_X3_hasMajority n c j (nI 3) 75 = 0 <;>
    simp only [hp, h0, h1, h2, h3, if_true, if_false] <;> decide
theorem re_setr {n : Nat} {c : CC} {j : Nat} : 0 ≤ (f_X3_seriesToSwap n c j).toInt ∧ (f_X3_seriesToSwap n c j).toInt ≤ 15 := by
  unfold f_X3_seriesToSwap
  simp only [g_X3_seriesToSwap]
  by_cases hp : f_X3_arePooled n c j = 0 <;> by_cases h0 : f_X3_hasMajority n c j (nI 0) 75 = 0 <;> by_cases h1 : f_X3_hasMajority n c j (nI 1) 75 = 0 <;> by_cases h2 : f_X3_hasMajority n c j (nI 2) 75 = 0 <;> by_cases h3 : f_X3_hasMajority n c j (nI 3) 75 = 0 <;>
    simp only [hp, h0, h1, h2, h3, if_true, if_false] <;> decide
