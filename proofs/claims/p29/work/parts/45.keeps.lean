/-! THE RELATION, 9: a claim's year keeps it -/
theorem szd_le {g : Nat → Nat → Int32} : ∀ k, szd g k ≤ k
  | 0 => Nat.le_refl _
  | k + 1 => by
    have := szd_le (g := g) k
    unfold szd; split <;> omega
theorem BC.pay {t s y : Nat} {yr : Int} {x x' : Nat → Int32} {z z' p p' : Nat → Int64} {P A S X : Int64} (h : BC t s y yr x z p) (hys : y + s < 70)
    (hx : ∀ k, k ≠ 8 → k ≠ 17 → x' k = x k) (h8 : x' 8 = 0 ∨ x' 8 = 1 ∨ x' 8 = 2) (h17 : x' 17 = x 17 + 1) (h5 : z' 5 = P) (h9 : z' 9 = A) (h10 : z' 10 = S) (h15 : z' 15 = z 15 + X)
    (h13 : z' 13 = z 13) (h14 : z' 14 = z 14) (hp : p' = (fun j => if j = ix (x 17) then X else p j)) {y' s' : Nat} (hy : y + s + 1 ≤ y' + s') (b5 : 0 ≤ P.toInt ∧ 0 ≤ A.toInt ∧ P.toInt + A.toInt ≤ gB y')
    (bS : 0 ≤ S.toInt ∧ S.toInt ≤ (z 10).toInt) : BC t s' y' yr x' z' p' := by
  obtain ⟨b0, b1, b2, b3, b4, b5', b6, b7, b8, b9, b10, b11, b12, b13, b14⟩ := h
  have e17 : (x 17 + 1).toInt = (x 17).toInt + 1 := by
    rw [re_iadd (by rw [show (1 : Int32).toInt = 1 from rfl]; omega) (by rw [show (1 : Int32).toInt = 1 from rfl]; omega)]; rfl
  have hlt : ix (x 17) < 70 := by rw [re_ix]; omega
  have hix : ix (x 17 + 1) = ix (x 17) + 1 := by rw [re_ix, re_ix, e17]; omega
  unfold BC
  rw [hx 0 (by decide) (by decide), hx 1 (by decide) (by decide), hx 2 (by decide) (by decide), hx 3 (by decide) (by decide), hx 4 (by decide) (by decide), hx 6 (by decide) (by decide), hx 7 (by decide) (by decide), h17, h5, h9, h10, h13, h14, h15, e17, hix, hp]
  refine ⟨b0, b1, b2, b3, b4, b5', b6, h8, ⟨by omega, by omega⟩, b5, ⟨bS.1, by omega⟩, b11, b12, fun k hk => ?_, ?_⟩
  · show (if k = ix (x 17) then X else p k) = 0
    rw [if_neg (by omega)]; exact b13 k (by omega)
  · rw [psm_put (b13 _ (Nat.le_refl _)) hlt, b14]
theorem BG.at {n no nt t : Nat} {yf : Nat → Nat} {c : CC} (b : BG n no nt t yf c) {i : Nat} (hi : i < n) : BC t (szd c.gi nt) (yf i) (c.ti 3).toInt (c.ci i) (c.cj i) (c.pay i) := b.2.2.2.2.2.2.2.2.2.1 i hi
theorem BG.sz {n no nt t : Nat} {yf : Nat → Nat} {c : CC} (b : BG n no nt t yf c) : szd c.gi nt ≤ 10 := by
  have := szd_le (g := c.gi) nt
  have := b.1.2.2.1
  omega
theorem re_step {n no nt t i y : Nat} {yf : Nat → Nat} {c : CC} {m : MC} (h : EQ n no nt c m) (b : BG n no nt t yf c) (hi : i < n) (hy : yf i = y) (hy6 : y ≤ 59) (ho : c.ci i 8 = 0) :
    (f_X4_looksAt m i).1 = (f_X3_serve c i).1 ∧ EQ n no nt (f_X3_serve c i).2 (f_X4_looksAt m i).2 ∧ BG n no nt t (fun j => if j = i then y + 1 else yf j) (f_X3_serve c i).2 ∧ Fc i c (f_X3_serve c i).2 ∧ (f_X3_serve c i).2.ci i 2 = c.ci i 2 := by
  obtain ⟨h0, hs⟩ := h
  have h0' := h0
  obtain ⟨e7, e23, e31, s1, s2, s3, s4, s5, s6, s7, s8, s9, er, nr, eo, ev, eg, ng, eb, ea⟩ := h0
  have er' := er i hi
  obtain ⟨a0, a1, a2, a3, a4, a5, a6, a7, a8, a9, r0, r1, r2, r3⟩ := er i hi
  have bc := b.at hi
  rw [hy] at bc
  have hsz := b.sz
  have ht6 := b.1.2.2.2
  have hty := b.2.1
  have bc' := bc
  obtain ⟨b0, b1, b2, b3, b4, b5, b6, b7, b8, b9, b10, b11, b12, b13, b14⟩ := bc
  have hgB := gB_le (show y ≤ 60 by omega)
  by_cases hl : c.ci i 1 = 0
  · have hof : ¬ i_X0_isOfState c i = 0 := fun e => (re_ofst.mp e) hl
    have hl' : m.ai 9 i = 0 := by rw [a1]; exact hl
    unfold f_X3_serve f_X4_looksAt
    rw [if_neg hof, if_pos hl', s1, a6, r1]
    have same : BG n no nt t (fun j => if j = i then y + 1 else yf j) c := by
      refine b.claim Fc.rf (fun j hj => by rw [if_neg hj]; exact Nat.le_refl _) ?_
      rw [if_pos rfl]; exact bc'.mono (Nat.le_refl _) (Nat.le_refl _) (Nat.le_succ _) (Int.le_refl _)
    by_cases hlt : c.ti 3 < c.ci i 7
    · rw [if_pos hlt, if_pos hlt]
      exact ⟨rfl, ⟨h0', hs⟩, same, Fc.rf, rfl⟩
    · rw [if_neg hlt, if_neg hlt]
      by_cases hz : c.cj i 9 = 0
      · rw [if_pos hz, if_pos hz]
        refine ⟨rfl, ⟨h0'.claim hi h_ef k_ef ?_ ?_, hs.claim h_ef k_ef (h_e2 (by decide)) ?_ (h_e4 (by decide)) (h_e4 (by decide))⟩, ?_, h_ef, h_e2 (by decide)⟩
        · show (f_X4_ends m i).tj 2 = (f_X3_close c i).tj 4
          rw [k_e5, h_e5, s2, r2]
        · show ER ((f_X3_close c i).ci i) ((f_X3_close c i).cj i) (f_X4_ends m i) i
          unfold ER
          rw [k_e1 (by decide), k_e1 (by decide), k_e1 (by decide), k_e1 (by decide), k_e1 (by decide), k_e1 (by decide), k_e1 (by decide), k_e2, k_e1 (by decide), k_e1 (by decide), k_e4 (by decide), k_e4 (by decide), k_e3, k_e4 (by decide),
            h_e2 (by decide), h_e2 (by decide), h_e2 (by decide), h_e2 (by decide), h_e2 (by decide), h_e2 (by decide), h_e2 (by decide), h_e1, h_e2 (by decide), h_e2 (by decide), h_e4 (by decide), h_e4 (by decide), h_e3, h_e4 (by decide)]
          exact ⟨a0, a1, a2, a3, a4, a5, a6, rfl, a8, a9, r0, r1, rfl, r3⟩
        · show (f_X3_close c i).ci i 8 = 2 ↔ _
          rw [h_e1, ho]; decide
        · refine b.claim h_ef (fun j hj => by rw [if_neg hj]; exact Nat.le_refl _) ?_
          rw [if_pos rfl]
          refine BC.mono ?_ (Nat.le_refl t) (Nat.le_refl _) (Nat.le_succ y) (Int.le_refl _)
          unfold BC
          simp only [h_e6, h_e1, h_e3, h_e2 (i := i) (k := 0) (by decide), h_e2 (i := i) (k := 1) (by decide), h_e2 (i := i) (k := 2) (by decide), h_e2 (i := i) (k := 3) (by decide), h_e2 (i := i) (k := 4) (by decide), h_e2 (i := i) (k := 6) (by decide), h_e2 (i := i) (k := 7) (by decide), h_e2 (i := i) (k := 17) (by decide), h_e4 (i := i) (k := 5) (by decide), h_e4 (i := i) (k := 9) (by decide), h_e4 (i := i) (k := 13) (by decide), h_e4 (i := i) (k := 14) (by decide), h_e4 (i := i) (k := 15) (by decide)]
          refine ⟨b0, b1, b2, b3, b4, b5, b6, Or.inr (Or.inl trivial), b8, b9, ⟨Int.le_refl _, ?_⟩, b11, b12, b13, b14⟩
          rw [show (0 : Int64).toInt = 0 from rfl]; omega
      · rw [if_neg hz, if_neg hz]
        exact ⟨rfl, ⟨h0', hs⟩, same, Fc.rf, rfl⟩
  · have hK : ix (c.ci i 0) < 5 := by rw [re_ix]; omega
    have hst : m.ai 22 (ix (c.ci i 0)) = f_X3_hasBit (c.ti 9).toInt64 (c.ci i 0) := by
      rw [eb _ hK, re_nIix (by rw [re_ile]; exact b0.1)]
    obtain ⟨l1, lf, l5, l9, l15, li, ld, ln⟩ := re_look er' hl hst
    obtain ⟨v1, ⟨vf, v5, v9, v15, vi, v17, vj, vp, vd, vn⟩, g1, g2, g3, g4⟩ := re_srv hl rfl b9.1 b9.2.1 (by omega) b5.1 b5.2 b10.1 (by omega) (by omega)
    obtain ⟨q1, q2, q3⟩ := yA_b (x := c.ci i) (z := c.cj i) (w := c.ti 3) b9.1 b9.2.1 b9.2.2 (by omega) b5.1 b5.2
    rw [s1, s2] at l1 l9 l15 ld ln
    rw [s1] at l5
    rw [l1, v1]
    generalize f_X3_hasBit (c.ti 9).toInt64 (c.ci i 0) = st at *
    generalize (f_X4_looksAt m i).2 = m' at *
    generalize (f_X3_serve c i).2 = c' at *
    have e8 : (c'.ci i 8 = 0 ∨ c'.ci i 8 = 1) ∧ m'.ai 16 i = c'.ci i 8 ∧ m'.aj 18 i = c'.cj i 10 ∧ m'.tj 2 = c'.tj 4 ∧ 0 ≤ (c'.cj i 10).toInt ∧ (c'.cj i 10).toInt ≤ (c.cj i 10).toInt := by
      by_cases hd : yD (c.ci i) (c.cj i) (c.ti 3) (c.tj 4) st
      · obtain ⟨d1, d2, d3⟩ := ld hd
        obtain ⟨u1, u2, u3⟩ := vd hd
        rw [d1, d2, d3, u1, u2, u3]
        exact ⟨Or.inr rfl, rfl, rfl, rfl, Int.le_refl _, b10.1⟩
      · obtain ⟨d1, d2, d3⟩ := ln hd
        obtain ⟨u1, u2, u3⟩ := vn hd
        rw [d1, d2, d3, u1, u2, u3]
        have : (c.cj i 10 - yF (c.ci i) (c.cj i) (c.ti 3)).toInt = (c.cj i 10).toInt - (yF (c.ci i) (c.cj i) (c.ti 3)).toInt := re_sub (by omega) (by omega)
        exact ⟨Or.inl ho, by rw [a7], rfl, rfl, by omega, by omega⟩
    obtain ⟨k8, k16, k18, k2, k10, k10'⟩ := e8
    have i2 := vi 2 (by decide) (by decide)
    refine ⟨rfl, ⟨h0'.claim hi vf lf k2 ?_, hs.claim vf lf (vi 0 (by decide) (by decide)) ?_ (vj 13 (by decide) (by decide) (by decide) (by decide)) (vj 14 (by decide) (by decide) (by decide) (by decide))⟩, ?_, vf, i2⟩
    · unfold ER
      rw [li 8 (by decide), li 9 (by decide), li 13 (by decide), li 14 (by decide), li 15 (by decide), li 11 (by decide), li 12 (by decide), li 20 (by decide), li 21 (by decide), k16, l5, l9, k18, l15,
        vi 0 (by decide) (by decide), vi 1 (by decide) (by decide), vi 2 (by decide) (by decide), vi 3 (by decide) (by decide), vi 4 (by decide) (by decide), vi 6 (by decide) (by decide), vi 7 (by decide) (by decide), vi 11 (by decide) (by decide), vi 12 (by decide) (by decide), v5, v9, v15]
      exact ⟨a0, a1, a2, a3, a4, a5, a6, rfl, a8, a9, rfl, rfl, rfl, rfl⟩
    · rw [ho]
      rcases k8 with k8 | k8 <;> rw [k8] <;> decide
    · refine b.claim vf (fun j hj => by rw [if_neg hj]; exact Nat.le_refl _) ?_
      rw [if_pos rfl]
      refine bc'.pay (by omega) vi ?_ v17 v5 v9 rfl v15 (vj 13 (by decide) (by decide) (by decide) (by decide)) (vj 14 (by decide) (by decide) (by decide) (by decide)) vp (by omega) ⟨q3, g3, ?_⟩ ⟨k10, k10'⟩
      · rcases k8 with k8 | k8
        · exact Or.inl k8
        · exact Or.inr (Or.inl k8)
      · show _ ≤ gB y * 11000 / 10000
        omega
