/-! THE RELATION, 7: a claim's year -/
def yA (x : Nat → Int32) (z : Nat → Int64) (w : Int32) : Int64 := (z 9 + z 9 * 500 / 10000) + (if w ≤ x 7 then (if w = x 7 then z 5 * (x 6).toInt64 / 10000 + z 5 else z 5 * (x 6).toInt64 / 10000 + 0) else 0)
def yF (x : Nat → Int32) (z : Nat → Int64) (w : Int32) : Int64 := if z 10 ≤ yA x z w then z 10 else yA x z w
def yG (x : Nat → Int32) (z : Nat → Int64) (w : Int32) (pu : Int64) (st : Int32) : Int64 := if st = 0 then (if 0 ≤ pu then (if pu ≤ yA x z w - yF x z w then pu else yA x z w - yF x z w) else 0) else 0
def yL (x : Nat → Int32) (z : Nat → Int64) (w : Int32) (pu : Int64) (st : Int32) : Int64 := yA x z w - yF x z w - yG x z w pu st
def yD (x : Nat → Int32) (z : Nat → Int64) (w : Int32) (pu : Int64) (st : Int32) : Prop := ¬ w < x 7 ∧ yL x z w pu st = 0
/-- what a year makes of the model's row -/
def YM (x : Nat → Int32) (z : Nat → Int64) (w : Int32) (pu : Int64) (st : Int32) (i : Nat) (m m' : MC) : Prop :=
  Fm i m m' ∧ m'.aj 10 i = (if w = x 7 then 0 else z 5) ∧ m'.aj 17 i = yL x z w pu st ∧ m'.aj 19 i = z 15 + (yF x z w + yG x z w pu st) ∧ (∀ f, f ≠ 16 → m'.ai f i = m.ai f i) ∧
  (yD x z w pu st → m'.ai 16 i = 1 ∧ m'.aj 18 i = 0 ∧ m'.tj 2 = pu - yG x z w pu st + (z 10 - yF x z w)) ∧
  (¬ yD x z w pu st → m'.ai 16 i = m.ai 16 i ∧ m'.aj 18 i = z 10 - yF x z w ∧ m'.tj 2 = pu - yG x z w pu st)
theorem re_look {x : Nat → Int32} {z : Nat → Int64} {m : MC} {i : Nat} {st : Int32} (h : ER x z m i) (hl : ¬ x 1 = 0) (hs : m.ai 22 (ix (x 0)) = st) :
    (f_X4_looksAt m i).1 = yF x z (m.ti 1) + yG x z (m.ti 1) (m.tj 2) st ∧ YM x z (m.ti 1) (m.tj 2) st i m (f_X4_looksAt m i).2 := by
  obtain ⟨a0, a1, a2, a3, a4, a5, a6, a7, a8, a9, b0, b1, b2, b3⟩ := h
  have hfl : ∀ v, f_X4_flow (m.paj 17 i v) i (m.ti 1) = f_X4_flow m i (m.ti 1) := fun _ => rfl
  have eA : (m.aj 17 i + m.aj 17 i * 500 / 10000) + f_X4_flow m i (m.ti 1) = yA x z (m.ti 1) := by
    unfold f_X4_flow yA; rw [b1, b0, a5, a6]
  have hl' : ¬ m.ai 9 i = 0 := by rw [a1]; exact hl
  have hs' : m.ai 22 (ix (m.ai 8 i)) = st := by rw [a0]; exact hs
  unfold f_X4_looksAt
  simp only [hfl, eA, hl', if_false, hs']
  unfold YM yD yL
  have eF : yF x z (m.ti 1) = if m.aj 18 i ≤ yA x z (m.ti 1) then m.aj 18 i else yA x z (m.ti 1) := by unfold yF; rw [b2]
  have eG : yG x z (m.ti 1) (m.tj 2) st = if st = 0 then (if 0 ≤ m.tj 2 then (if m.tj 2 ≤ yA x z (m.ti 1) - yF x z (m.ti 1) then m.tj 2 else yA x z (m.ti 1) - yF x z (m.ti 1)) else 0) else 0 := rfl
  rw [← b0, ← b2, ← b3, ← a6]
  generalize yA x z (m.ti 1) = A at *
  generalize yF x z (m.ti 1) = F at *
  generalize yG x z (m.ti 1) (m.tj 2) st = G at *
  have fin : ∀ (P v1 v2 v3 v4 v5 v6 v7 : Int64), Fm i m ((((((((m.paj 17 i v1).paj 17 i v2).paj 10 i P).paj 18 i v3).paj 17 i v4).ptj 2 v5).paj 17 i v6).paj 19 i v7) := fun _ _ _ _ _ _ _ _ =>
    ((((((((Fm.rf.paj (by decide) (by decide)).paj (by decide) (by decide)).paj (by decide) (by decide)).paj (by decide) (by decide)).paj (by decide) (by decide)).p2).paj (by decide) (by decide)).paj (by decide) (by decide))
  have fin2 : ∀ (P v1 v2 v3 v4 v5 v6 v7 : Int64), Fm i m (f_X4_ends ((((((((m.paj 17 i v1).paj 17 i v2).paj 10 i P).paj 18 i v3).paj 17 i v4).ptj 2 v5).paj 17 i v6).paj 19 i v7) i) := fun _ _ _ _ _ _ _ _ =>
    ((((fin _ _ _ _ _ _ _ _).pai (by decide) (by decide)).p2).paj (by decide) (by decide))
  have K : ∀ P F G v : Int64, P = (if m.ti 1 = m.ai 12 i then 0 else m.aj 10 i) → ∀ X : Int64 × MC,
      X = (if m.ti 1 < m.ai 12 i then (F + G, ((((((((m.paj 17 i v).paj 17 i A).paj 10 i P).paj 18 i (m.aj 18 i - F)).paj 17 i (A - F)).ptj 2 (m.tj 2 - G)).paj 17 i (A - F - G)).paj 19 i (m.aj 19 i + (F + G))))
        else (if A - F - G = 0 then (F + G, f_X4_ends (((((((((m.paj 17 i v).paj 17 i A).paj 10 i P).paj 18 i (m.aj 18 i - F)).paj 17 i (A - F)).ptj 2 (m.tj 2 - G)).paj 17 i (A - F - G)).paj 19 i (m.aj 19 i + (F + G)))) i)
          else (F + G, ((((((((m.paj 17 i v).paj 17 i A).paj 10 i P).paj 18 i (m.aj 18 i - F)).paj 17 i (A - F)).ptj 2 (m.tj 2 - G)).paj 17 i (A - F - G)).paj 19 i (m.aj 19 i + (F + G)))))) →
      X.1 = F + G ∧ Fm i m X.2 ∧ X.2.aj 10 i = (if m.ti 1 = m.ai 12 i then 0 else m.aj 10 i) ∧ X.2.aj 17 i = A - F - G ∧ X.2.aj 19 i = m.aj 19 i + (F + G) ∧ (∀ f, f ≠ 16 → X.2.ai f i = m.ai f i) ∧
        (¬ m.ti 1 < m.ai 12 i ∧ A - F - G = 0 → X.2.ai 16 i = 1 ∧ X.2.aj 18 i = 0 ∧ X.2.tj 2 = m.tj 2 - G + (m.aj 18 i - F)) ∧
        (¬ (¬ m.ti 1 < m.ai 12 i ∧ A - F - G = 0) → X.2.ai 16 i = m.ai 16 i ∧ X.2.aj 18 i = m.aj 18 i - F ∧ X.2.tj 2 = m.tj 2 - G) := by
    intro P F G v hP X hX
    by_cases hlt : m.ti 1 < m.ai 12 i
    · rw [if_pos hlt] at hX
      rw [hX, ← hP]
      refine ⟨rfl, fin _ _ _ _ _ _ _ _, ?_, ?_, ?_, fun _ _ => rfl, fun e => absurd hlt e.1, fun _ => ⟨rfl, ?_, rfl⟩⟩ <;> simp [k_a1, k_a2, k_a3, k_a4, k_a5, k_b1, k_b2, k_b3, k_b4, k_b5, k_t1, k_t2, k_t3, k_t4, k_t5, k_s1, k_s2, k_s3, k_s4, k_s5]
    · rw [if_neg hlt] at hX
      by_cases hz : A - F - G = 0
      · rw [if_pos hz] at hX
        rw [hX, ← hP]
        refine ⟨rfl, fin2 _ _ _ _ _ _ _ _, ?_, ?_, ?_, fun f hf => ?_, fun _ => ⟨k_e2, k_e3, ?_⟩, fun e => absurd ⟨hlt, hz⟩ e⟩
        · rw [k_e4 (by decide)]; simp [k_a1, k_a2, k_a3, k_a4, k_a5, k_b1, k_b2, k_b3, k_b4, k_b5, k_t1, k_t2, k_t3, k_t4, k_t5, k_s1, k_s2, k_s3, k_s4, k_s5]
        · rw [k_e4 (by decide)]; simp [k_a1, k_a2, k_a3, k_a4, k_a5, k_b1, k_b2, k_b3, k_b4, k_b5, k_t1, k_t2, k_t3, k_t4, k_t5, k_s1, k_s2, k_s3, k_s4, k_s5]
        · rw [k_e4 (by decide)]; simp [k_a1, k_a2, k_a3, k_a4, k_a5, k_b1, k_b2, k_b3, k_b4, k_b5, k_t1, k_t2, k_t3, k_t4, k_t5, k_s1, k_s2, k_s3, k_s4, k_s5]
        · rw [k_e1 hf]
        · rw [k_e5]; simp [k_a1, k_a2, k_a3, k_a4, k_a5, k_b1, k_b2, k_b3, k_b4, k_b5, k_t1, k_t2, k_t3, k_t4, k_t5, k_s1, k_s2, k_s3, k_s4, k_s5]
      · rw [if_neg hz] at hX
        rw [hX, ← hP]
        refine ⟨rfl, fin _ _ _ _ _ _ _ _, ?_, ?_, ?_, fun _ _ => rfl, fun e => absurd e.2 hz, fun _ => ⟨rfl, ?_, rfl⟩⟩ <;> simp [k_a1, k_a2, k_a3, k_a4, k_a5, k_b1, k_b2, k_b3, k_b4, k_b5, k_t1, k_t2, k_t3, k_t4, k_t5, k_s1, k_s2, k_s3, k_s4, k_s5]
  by_cases hd : m.ti 1 = m.ai 12 i
  · simp only [hd, if_true] at K ⊢
    by_cases hs : m.aj 18 i ≤ A
    · simp only [hs, if_true] at eF ⊢
      subst eF
      by_cases hb : st = 0
      · simp only [hb, if_true] at eG ⊢
        by_cases hp : 0 ≤ m.tj 2
        · simp only [hp, if_true] at eG ⊢
          by_cases hr : m.tj 2 ≤ A - m.aj 18 i
          · simp only [hr, if_true] at eG ⊢
            subst eG
            exact K _ _ _ _ rfl _ rfl
          · simp only [hr, if_false] at eG ⊢
            subst eG
            exact K _ _ _ _ rfl _ rfl
        · simp only [hp, if_false] at eG ⊢
          subst eG
          exact K _ _ _ _ rfl _ rfl
      · simp only [hb, if_false] at eG ⊢
        subst eG
        exact K _ _ _ _ rfl _ rfl
    · simp only [hs, if_false] at eF ⊢
      subst eF
      by_cases hb : st = 0
      · simp only [hb, if_true] at eG ⊢
        by_cases hp : 0 ≤ m.tj 2
        · simp only [hp, if_true] at eG ⊢
          by_cases hr : m.tj 2 ≤ F - F
          · simp only [hr, if_true] at eG ⊢
            subst eG
            exact K _ _ _ _ rfl _ rfl
          · simp only [hr, if_false] at eG ⊢
            subst eG
            exact K _ _ _ _ rfl _ rfl
        · simp only [hp, if_false] at eG ⊢
          subst eG
          exact K _ _ _ _ rfl _ rfl
      · simp only [hb, if_false] at eG ⊢
        subst eG
        exact K _ _ _ _ rfl _ rfl
  · simp only [hd, if_false] at K ⊢
    by_cases hs : m.aj 18 i ≤ A
    · simp only [hs, if_true] at eF ⊢
      subst eF
      by_cases hb : st = 0
      · simp only [hb, if_true] at eG ⊢
        by_cases hp : 0 ≤ m.tj 2
        · simp only [hp, if_true] at eG ⊢
          by_cases hr : m.tj 2 ≤ A - m.aj 18 i
          · simp only [hr, if_true] at eG ⊢
            subst eG
            exact K _ _ _ _ rfl _ rfl
          · simp only [hr, if_false] at eG ⊢
            subst eG
            exact K _ _ _ _ rfl _ rfl
        · simp only [hp, if_false] at eG ⊢
          subst eG
          exact K _ _ _ _ rfl _ rfl
      · simp only [hb, if_false] at eG ⊢
        subst eG
        exact K _ _ _ _ rfl _ rfl
    · simp only [hs, if_false] at eF ⊢
      subst eF
      by_cases hb : st = 0
      · simp only [hb, if_true] at eG ⊢
        by_cases hp : 0 ≤ m.tj 2
        · simp only [hp, if_true] at eG ⊢
          by_cases hr : m.tj 2 ≤ F - F
          · simp only [hr, if_true] at eG ⊢
            subst eG
            exact K _ _ _ _ rfl _ rfl
          · simp only [hr, if_false] at eG ⊢
            subst eG
            exact K _ _ _ _ rfl _ rfl
        · simp only [hp, if_false] at eG ⊢
          subst eG
          exact K _ _ _ _ rfl _ rfl
      · simp only [hb, if_false] at eG ⊢
        subst eG
        exact K _ _ _ _ rfl _ rfl

/-! the class's side -/
theorem re_fall {c : CC} {i : Nat} {w : Int32} (hp : 0 ≤ (c.cj i 5).toInt) (ha : 0 ≤ (c.cj i 9).toInt) (hpa : (c.cj i 5).toInt + (c.cj i 9).toInt ≤ 400000000) (hq : 0 ≤ (c.ci i 6).toInt) (hq2 : (c.ci i 6).toInt ≤ 1000) :
    Fc i c (f_X0_fallDue c i w) ∧ (f_X0_fallDue c i w).tj = c.tj ∧ (f_X0_fallDue c i w).ci = c.ci ∧ (f_X0_fallDue c i w).pay = c.pay ∧ (f_X0_fallDue c i w).cj i 9 = yA (c.ci i) (c.cj i) w ∧
    (f_X0_fallDue c i w).cj i 5 = (if w = c.ci i 7 then 0 else c.cj i 5) ∧ ∀ k, k ≠ 5 → k ≠ 9 → (f_X0_fallDue c i w).cj i k = c.cj i k := by
  have e5 : (500 : Int64).toInt = 500 := rfl
  have em : (c.cj i 9 * 500).toInt = (c.cj i 9).toInt * 500 := by rw [re_mul (by rw [e5]; omega) (by rw [e5]; omega), e5]
  have eq : f_X3_quotient (c.cj i 9 * 500) 10000 = c.cj i 9 * 500 / 10000 := re_qdiv (by rw [em]; omega) (by decide)
  have ec : f_X3_couponOf (c.cj i 5) (c.ci i 6) = c.cj i 5 * (c.ci i 6).toInt64 / 10000 := (re_cpn hp (by omega) hq hq2).1
  unfold f_X0_fallDue yA
  rw [eq, ec]
  by_cases h1 : c.ci i 7 < w
  · have h2 : ¬ w ≤ c.ci i 7 := by rw [re_ile]; rw [re_ilt] at h1; omega
    have h3 : ¬ w = c.ci i 7 := by intro e; rw [e, re_ilt] at h1; omega
    simp only [if_pos h1, if_neg h2, if_neg h3]
    refine ⟨Fc.rf.pcj, trivial, trivial, trivial, ?_, ?_, fun k h5 h9 => h_a6 h9⟩
    · rw [h_a1, Int64.add_zero]
    · rw [h_a6 (by decide)]
  · have h2 : w ≤ c.ci i 7 := by rw [re_ile]; rw [re_ilt] at h1; omega
    simp only [if_neg h1, if_pos h2]
    by_cases h3 : w = c.ci i 7
    · simp only [if_pos h3]
      refine ⟨(((Fc.rf.pcj).pcj).pcj).pcj, trivial, trivial, trivial, ?_, h_a1, fun k h5 h9 => ?_⟩
      · rw [h_a6 (by decide), h_a1, Int64.add_assoc]
      · rw [h_a6 h5, h_a6 h9, h_a6 h9, h_a6 h9]
    · simp only [if_neg h3]
      refine ⟨((Fc.rf.pcj).pcj), trivial, trivial, trivial, ?_, ?_, fun k h5 h9 => ?_⟩
      · rw [h_a1, Int64.add_zero]
      · rw [h_a6 (by decide), h_a6 (by decide)]
      · rw [h_a6 h9, h_a6 h9]
theorem re_recv {c : CC} {i : Nat} {x : Int64} (hx : x ≤ c.cj i 9) (h17 : (c.ci i 17).toInt < 70) :
    Fc i c (f_X0_receive c i x) ∧ (f_X0_receive c i x).tj = c.tj ∧ (f_X0_receive c i x).cj i 9 = c.cj i 9 - x ∧ (f_X0_receive c i x).cj i 5 = c.cj i 5 ∧ (f_X0_receive c i x).cj i 15 = c.cj i 15 + x ∧
    (∀ k, k ≠ 5 → k ≠ 9 → k ≠ 15 → (f_X0_receive c i x).cj i k = c.cj i k) ∧ (f_X0_receive c i x).ci i 17 = c.ci i 17 + 1 ∧ (∀ k, k ≠ 17 → (f_X0_receive c i x).ci i k = c.ci i k) ∧
    (f_X0_receive c i x).pay i = (fun j => if j = ix (c.ci i 17) then x else c.pay i j) := by
  have e : f_J9_min_f86c9 x (c.cj i 9) = x := by
    unfold f_J9_min_f86c9; rw [if_neg]; rw [re_lt]; rw [re_le] at hx; omega
  have hn : ¬ nI 70 ≤ c.ci i 17 := by rw [re_ile, re_nI (by decide)]; omega
  unfold f_X0_receive
  rw [e, if_neg hn]
  refine ⟨((((Fc.rf.pcj).pcj).pcj).ppay).pci, rfl, ?_, ?_, ?_, fun k h5 h9 h15 => ?_, h_b1, fun k h17 => h_b6 h17, ?_⟩
  · rw [h_b3, h_p4, h_a6 (by decide), h_a6 (by decide), h_a1]
  · rw [h_b3, h_p4, h_a6 (by decide), h_a1, Int64.sub_self, Int64.sub_zero]
  · rw [h_b3, h_p4, h_a1]
  · rw [h_b3, h_p4, h_a6 h15, h_a6 h5, h_a6 h9]
  · rw [h_b7]; exact h_p1
