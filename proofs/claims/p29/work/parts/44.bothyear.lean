/-! THE RELATION, 8: a claim's year, both sides -/
theorem re_pay {c : CC} {i : Nat} {A : Int64} (hA : c.cj i 9 = A) (a0 : 0 ≤ A.toInt) (a1 : A.toInt ≤ 2000000000) (s0 : 0 ≤ (c.cj i 10).toInt) (s1 : (c.cj i 10).toInt ≤ 2000000000) {F G st : _} (hst : f_X3_hasBit (c.ti 9).toInt64 (c.ci i 0) = st)
    (hF : F = if c.cj i 10 ≤ A then c.cj i 10 else A) (hG : G = if st = 0 then (if 0 ≤ c.tj 4 then (if c.tj 4 ≤ A - F then c.tj 4 else A - F) else 0) else 0) :
    f_X3_payArrears c i = (F + G, f_X0_receive ((c.pcj i 10 (c.cj i 10 - F)).ptj 4 (c.tj 4 - G)) i (F + G)) ∧ 0 ≤ F.toInt ∧ F.toInt ≤ A.toInt ∧ F.toInt ≤ (c.cj i 10).toInt ∧ 0 ≤ G.toInt ∧ F.toInt + G.toInt ≤ A.toInt := by
  have eF : f_J9_min_f86c9 A (c.cj i 10) = F := by
    rw [hF]; unfold f_J9_min_f86c9
    by_cases h1 : c.cj i 10 < A
    · rw [if_pos h1, if_pos (by rw [re_le]; rw [re_lt] at h1; omega)]
    · rw [if_neg h1]
      by_cases h2 : c.cj i 10 ≤ A
      · rw [if_pos h2, re_eq]; rw [re_lt] at h1; rw [re_le] at h2; omega
      · rw [if_neg h2]
  have f0 : 0 ≤ F.toInt ∧ F.toInt ≤ A.toInt ∧ F.toInt ≤ (c.cj i 10).toInt := by
    rw [hF]; split
    · rename_i h; rw [re_le] at h; omega
    · rename_i h; rw [re_le] at h; omega
  have eS : (A - F).toInt = A.toInt - F.toInt := re_sub (by omega) (by omega)
  unfold f_X3_payArrears
  rw [hA, hst, eF]
  have z0 : (0 : Int64).toInt = 0 := rfl
  by_cases hp : c.tj 4 ≤ 0
  · have g0 : G = 0 := by
      rw [hG]; split
      · split
        · rename_i h; rw [if_pos]
          · rw [re_eq]; rw [re_le] at h hp; omega
          · rw [re_le, eS]; rw [re_le] at hp; omega
        · rfl
      · rfl
    rw [if_pos hp, g0]
    exact ⟨rfl, f0.1, f0.2.1, f0.2.2, by omega, by omega⟩
  · rw [if_neg hp]
    have hp2 : 0 ≤ c.tj 4 := by rw [re_le]; rw [re_le] at hp; omega
    by_cases hb : st = 0
    · rw [if_pos hb]
      rw [if_pos hb, if_pos hp2] at hG
      have eG : f_J9_min_f86c9 (A - F) (c.tj 4) = G := by
        rw [hG]; unfold f_J9_min_f86c9
        by_cases h1 : c.tj 4 < A - F
        · rw [if_pos h1, if_pos (by rw [re_le]; rw [re_lt] at h1; omega)]
        · rw [if_neg h1]
          by_cases h2 : c.tj 4 ≤ A - F
          · rw [if_pos h2, re_eq]; rw [re_lt] at h1; rw [re_le] at h2; omega
          · rw [if_neg h2]
      have g0 : 0 ≤ G.toInt ∧ F.toInt + G.toInt ≤ A.toInt := by
        rw [hG]; rw [re_le] at hp2; split
        · rename_i h; rw [re_le] at h; omega
        · omega
      rw [eG]
      exact ⟨rfl, f0.1, f0.2.1, f0.2.2, g0.1, g0.2⟩
    · rw [if_neg hb]
      rw [if_neg hb] at hG
      rw [hG]
      exact ⟨rfl, f0.1, f0.2.1, f0.2.2, by omega, by omega⟩
/-- what a year makes of the class's claim -/
def YC (w : Int32) (pu : Int64) (st : Int32) (i : Nat) (c c' : CC) : Prop :=
  Fc i c c' ∧ c'.cj i 5 = (if w = c.ci i 7 then 0 else c.cj i 5) ∧ c'.cj i 9 = yL (c.ci i) (c.cj i) w pu st ∧ c'.cj i 15 = c.cj i 15 + (yF (c.ci i) (c.cj i) w + yG (c.ci i) (c.cj i) w pu st) ∧
  (∀ k, k ≠ 8 → k ≠ 17 → c'.ci i k = c.ci i k) ∧ c'.ci i 17 = c.ci i 17 + 1 ∧ (∀ k, k ≠ 5 → k ≠ 9 → k ≠ 10 → k ≠ 15 → c'.cj i k = c.cj i k) ∧
  c'.pay i = (fun j => if j = ix (c.ci i 17) then yF (c.ci i) (c.cj i) w + yG (c.ci i) (c.cj i) w pu st else c.pay i j) ∧
  (yD (c.ci i) (c.cj i) w pu st → c'.ci i 8 = 1 ∧ c'.cj i 10 = 0 ∧ c'.tj 4 = pu - yG (c.ci i) (c.cj i) w pu st + (c.cj i 10 - yF (c.ci i) (c.cj i) w)) ∧
  (¬ yD (c.ci i) (c.cj i) w pu st → c'.ci i 8 = c.ci i 8 ∧ c'.cj i 10 = c.cj i 10 - yF (c.ci i) (c.cj i) w ∧ c'.tj 4 = pu - yG (c.ci i) (c.cj i) w pu st)
theorem yA_b {x : Nat → Int32} {z : Nat → Int64} {w : Int32} {B : Int} (hp : 0 ≤ (z 5).toInt) (ha : 0 ≤ (z 9).toInt) (hpa : (z 5).toInt + (z 9).toInt ≤ B) (hB : B ≤ 400000000) (hq : 0 ≤ (x 6).toInt) (hq2 : (x 6).toInt ≤ 1000) :
    0 ≤ (yA x z w).toInt ∧ ((if w = x 7 then 0 else z 5) : Int64).toInt + (yA x z w).toInt ≤ B * 11000 / 10000 ∧ 0 ≤ ((if w = x 7 then 0 else z 5) : Int64).toInt := by
  have e5 : (500 : Int64).toInt = 500 := rfl
  have e4 : (10000 : Int64).toInt = 10000 := rfl
  have z0 : (0 : Int64).toInt = 0 := rfl
  have em : (z 9 * 500).toInt = (z 9).toInt * 500 := by rw [re_mul (by rw [e5]; omega) (by rw [e5]; omega), e5]
  have ed : (z 9 * 500 / 10000).toInt = (z 9).toInt * 500 / 10000 := by rw [re_div (by rw [em]; omega) (by decide), em, e4]
  obtain ⟨c1, c2, c3⟩ := re_cpn hp (by omega) hq hq2
  rw [c1] at c2 c3
  unfold yA
  generalize z 5 * (x 6).toInt64 / 10000 = cp at *
  have e1 : (z 9 + z 9 * 500 / 10000).toInt = (z 9).toInt + (z 9).toInt * 500 / 10000 := by rw [re_add (by rw [ed]; omega) (by rw [ed]; omega), ed]
  have e2 : (cp + z 5).toInt = cp.toInt + (z 5).toInt := re_add (by omega) (by omega)
  by_cases h7 : w = x 7
  · have hle : w ≤ x 7 := by rw [h7, re_ile]; omega
    rw [if_pos hle, if_pos h7, if_pos h7, re_add (by rw [e1, e2]; omega) (by rw [e1, e2]; omega), e1, e2]
    omega
  · rw [if_neg h7, if_neg h7]
    by_cases hle : w ≤ x 7
    · rw [if_pos hle, Int64.add_zero, re_add (by rw [e1]; omega) (by rw [e1]; omega), e1]; omega
    · rw [if_neg hle, Int64.add_zero, e1]; omega
theorem re_srv {c : CC} {i : Nat} {st : Int32} (hl : ¬ c.ci i 1 = 0) (hst : f_X3_hasBit (c.ti 9).toInt64 (c.ci i 0) = st) (hp : 0 ≤ (c.cj i 5).toInt) (ha : 0 ≤ (c.cj i 9).toInt) (hpa : (c.cj i 5).toInt + (c.cj i 9).toInt ≤ 400000000)
    (hq : 0 ≤ (c.ci i 6).toInt) (hq2 : (c.ci i 6).toInt ≤ 1000) (s0 : 0 ≤ (c.cj i 10).toInt) (s1 : (c.cj i 10).toInt ≤ 1000000000) (h17 : (c.ci i 17).toInt < 70) :
    (f_X3_serve c i).1 = yF (c.ci i) (c.cj i) (c.ti 3) + yG (c.ci i) (c.cj i) (c.ti 3) (c.tj 4) st ∧ YC (c.ti 3) (c.tj 4) st i c (f_X3_serve c i).2 ∧
    0 ≤ (yF (c.ci i) (c.cj i) (c.ti 3)).toInt ∧ (yF (c.ci i) (c.cj i) (c.ti 3)).toInt ≤ (c.cj i 10).toInt ∧ 0 ≤ (yL (c.ci i) (c.cj i) (c.ti 3) (c.tj 4) st).toInt ∧ (yL (c.ci i) (c.cj i) (c.ti 3) (c.tj 4) st).toInt ≤ (yA (c.ci i) (c.cj i) (c.ti 3)).toInt := by
  obtain ⟨f1, f2, f3, f4, f5, f6, f7⟩ := re_fall (w := c.ti 3) hp ha hpa hq hq2
  obtain ⟨y1, y2, y3⟩ := yA_b (x := c.ci i) (z := c.cj i) (w := c.ti 3) hp ha hpa (by decide) hq hq2
  have hof : i_X0_isOfState c i = 0 := re_ofst.mpr hl
  unfold f_X3_serve
  rw [if_pos hof]
  unfold YC yD yL yG
  have hF : yF (c.ci i) (c.cj i) (c.ti 3) = if c.cj i 10 ≤ yA (c.ci i) (c.cj i) (c.ti 3) then c.cj i 10 else yA (c.ci i) (c.cj i) (c.ti 3) := rfl
  generalize hc1 : f_X0_fallDue c i (c.ti 3) = c1 at *
  generalize hA : yA (c.ci i) (c.cj i) (c.ti 3) = A at *
  generalize yF (c.ci i) (c.cj i) (c.ti 3) = F at *
  generalize hG : (if st = 0 then (if 0 ≤ c.tj 4 then (if c.tj 4 ≤ A - F then c.tj 4 else A - F) else 0) else 0) = G at *
  have t3 : c1.ti = c.ti := f1.1
  obtain ⟨p1, p2, p3, p4, p5, p6⟩ := re_pay (c := c1) (i := i) (st := st) (F := F) (G := G) f5 y1 (by omega) (by rw [f7 10 (by decide) (by decide)]; exact s0) (by rw [f7 10 (by decide) (by decide)]; omega) (by rw [t3, f3]; exact hst) (by rw [f7 10 (by decide) (by decide)]; exact hF) (by rw [f2]; exact hG.symm)
  rw [f7 10 (by decide) (by decide)] at p1 p4
  rw [f2] at p1
  rw [p1]
  have eX : (F + G).toInt = F.toInt + G.toInt := re_add (by omega) (by omega)
  have qj : ∀ k, k ≠ 10 → ((c1.pcj i 10 (c.cj i 10 - F)).ptj 4 (c.tj 4 - G)).cj i k = c1.cj i k := fun k hk => re_upk hk
  obtain ⟨r1, r2, r3, r4, r5, r6, r7, r8, r9⟩ := re_recv (c := (c1.pcj i 10 (c.cj i 10 - F)).ptj 4 (c.tj 4 - G)) (i := i) (x := F + G) (by rw [qj 9 (by decide), f5, re_le, eX]; exact p6) (by show (c1.ci i 17).toInt < 70; rw [f3]; exact h17)
  rw [qj 9 (by decide), f5] at r3
  rw [qj 5 (by decide), f6] at r4
  rw [qj 15 (by decide), f7 15 (by decide) (by decide)] at r5
  have q17 : ((c1.pcj i 10 (c.cj i 10 - F)).ptj 4 (c.tj 4 - G)).ci i 17 = c.ci i 17 := by
    show c1.ci i 17 = c.ci i 17
    rw [f3]
  rw [q17] at r7 r9
  have r9 : (f_X0_receive ((c1.pcj i 10 (c.cj i 10 - F)).ptj 4 (c.tj 4 - G)) i (F + G)).pay i = (fun j => if j = ix (c.ci i 17) then F + G else c.pay i j) := by
    rw [r9, ← f4]
  have r2' : (f_X0_receive ((c1.pcj i 10 (c.cj i 10 - F)).ptj 4 (c.tj 4 - G)) i (F + G)).tj 4 = c.tj 4 - G := by rw [r2]; exact h_t1
  have r10 : (f_X0_receive ((c1.pcj i 10 (c.cj i 10 - F)).ptj 4 (c.tj 4 - G)) i (F + G)).cj i 10 = c.cj i 10 - F := by
    rw [r6 10 (by decide) (by decide) (by decide)]; exact re_up1
  have r8' : ∀ k, k ≠ 17 → (f_X0_receive ((c1.pcj i 10 (c.cj i 10 - F)).ptj 4 (c.tj 4 - G)) i (F + G)).ci i k = c.ci i k := fun k hk => by
    rw [r8 k hk]
    show c1.ci i k = c.ci i k
    rw [f3]
  have r6' : ∀ k, k ≠ 5 → k ≠ 9 → k ≠ 10 → k ≠ 15 → (f_X0_receive ((c1.pcj i 10 (c.cj i 10 - F)).ptj 4 (c.tj 4 - G)) i (F + G)).cj i k = c.cj i k := fun k k5 k9 k10 k15 => by
    rw [r6 k k5 k9 k15, qj k k10, f7 k k5 k9]
  have fr : Fc i c (f_X0_receive ((c1.pcj i 10 (c.cj i 10 - F)).ptj 4 (c.tj 4 - G)) i (F + G)) := (f1.tr ((Fc.rf.pcj).p4)).tr r1
  have t3' : (f_X0_receive ((c1.pcj i 10 (c.cj i 10 - F)).ptj 4 (c.tj 4 - G)) i (F + G)).ti 3 = c.ti 3 := by rw [fr.1]
  have eL : A - (F + G) = A - F - G := by grind
  rw [eL] at r3
  have e1 : (A - F).toInt = A.toInt - F.toInt := re_sub (by omega) (by omega)
  have e2 : (A - F - G).toInt = A.toInt - F.toInt - G.toInt := by rw [re_sub (by rw [e1]; omega) (by rw [e1]; omega), e1]
  generalize f_X0_receive ((c1.pcj i 10 (c.cj i 10 - F)).ptj 4 (c.tj 4 - G)) i (F + G) = c2 at *
  have w7 : c2.ci i 7 = c.ci i 7 := r8' 7 (by decide)
  have bd : 0 ≤ F.toInt ∧ F.toInt ≤ (c.cj i 10).toInt ∧ 0 ≤ (A - F - G).toInt ∧ (A - F - G).toInt ≤ A.toInt := ⟨p2, p4, by omega, by omega⟩
  show (if c2.ti 3 < c2.ci i 7 then (F + G, c2) else if c2.cj i 9 = 0 then (F + G, f_X3_close c2 i) else (F + G, c2)).1 = F + G ∧ _
  rw [t3', w7, r3]
  by_cases hlt : c.ti 3 < c.ci i 7
  · rw [if_pos hlt]
    refine ⟨rfl, ⟨fr, r4, r3, r5, fun k _ hk => r8' k hk, r7, r6', r9, fun h => absurd hlt h.1, fun _ => ⟨r8' 8 (by decide), r10, r2'⟩⟩, bd⟩
  · rw [if_neg hlt]
    by_cases hz : A - F - G = 0
    · rw [if_pos hz]
      refine ⟨rfl, ⟨fr.tr h_ef, (h_e4 (by decide)).trans r4, (h_e4 (by decide)).trans r3, (h_e4 (by decide)).trans r5, fun k h8 hk => (h_e2 h8).trans (r8' k hk), (h_e2 (by decide)).trans r7, fun k k5 k9 k10 k15 => (h_e4 k10).trans (r6' k k5 k9 k10 k15), ?_, fun _ => ⟨h_e1, h_e3, ?_⟩, fun h => absurd ⟨hlt, hz⟩ h⟩, bd⟩
      · rw [h_e6]; exact r9
      · rw [h_e5, r2', r10]
    · rw [if_neg hz]
      refine ⟨rfl, ⟨fr, r4, r3, r5, fun k _ hk => r8' k hk, r7, r6', r9, fun h => absurd h.2 hz, fun _ => ⟨r8' 8 (by decide), r10, r2'⟩⟩, bd⟩
