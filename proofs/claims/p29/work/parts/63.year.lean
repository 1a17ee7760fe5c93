/-! THE LAW, 5: a year -/
def XZ (n k : Nat) (yr : Int) (i : Nat) (x : Nat → Int32) (z : Nat → Int64) : Prop :=
  (x 8 ≠ 0 → z 10 = 0) ∧ (x 1 = 0 → z 9 = 0) ∧ (x 8 = 0 → (x 7).toInt ≤ yr → z 5 = 0 ∨ ((x 7).toInt = yr ∧ k ≤ ix (x 2) * n + i)) ∧ (z 14).toInt ≤ 270 * (z 13).toInt + 2040
theorem z_serve {n k t s y i : Nat} {c : CC} (bc : BC t s y (c.ti 3).toInt (c.ci i) (c.cj i) (c.pay i)) (hy : y ≤ 59) (hs : s ≤ 10) (ht : t ≤ 600) (ho : c.ci i 8 = 0) (x : XZ n k (c.ti 3).toInt i (c.ci i) (c.cj i)) :
    Fc i c (f_X3_serve c i).2 ∧ (f_X3_serve c i).2.tj 4 + ((f_X3_serve c i).2.cj i 10 + (f_X3_serve c i).2.cj i 15) = c.tj 4 + (c.cj i 10 + c.cj i 15) ∧ (f_X3_serve c i).2.cj i 15 = c.cj i 15 + (f_X3_serve c i).1 ∧
    (0 ≤ (f_X3_serve c i).1.toInt ∧ (f_X3_serve c i).1.toInt ≤ 440000000) ∧ (f_X3_serve c i).2.ci i 11 = c.ci i 11 ∧ XZ n (k + 1) (c.ti 3).toInt i ((f_X3_serve c i).2.ci i) ((f_X3_serve c i).2.cj i) := by
  obtain ⟨b0, b1, b2, b3, b4, b5, b6, b7, b8, b9, b10, b11, b12, b13, b14⟩ := bc
  have hgB := gB_le (show y ≤ 60 by omega)
  obtain ⟨x1, x2, x3, x4⟩ := x
  by_cases hl : c.ci i 1 = 0
  · have hof : ¬ i_X0_isOfState c i = 0 := fun e => (re_ofst.mp e) hl
    have e9 := x2 hl
    unfold f_X3_serve
    rw [if_neg hof]
    by_cases hlt : c.ti 3 < c.ci i 7
    · rw [if_pos hlt]
      refine ⟨Fc.rf, rfl, (Int64.add_zero _).symm, ⟨Int.le_refl 0, show (0 : Int) ≤ 440000000 by decide⟩, rfl, x1, x2, fun _ h => ?_, x4⟩
      change (c.ci i 7).toInt ≤ _ at h
      rw [re_ilt] at hlt; omega
    · rw [if_neg hlt, if_pos e9]
      refine ⟨h_ef, ?_, ?_, ⟨Int.le_refl 0, show (0 : Int) ≤ 440000000 by decide⟩, h_e2 (by decide), fun _ => h_e3, fun _ => ?_, fun h => ?_, ?_⟩
      · show (f_X3_close c i).tj 4 + ((f_X3_close c i).cj i 10 + (f_X3_close c i).cj i 15) = _
        rw [h_e5, h_e3, h_e4 (by decide)]; grind
      · show (f_X3_close c i).cj i 15 = c.cj i 15 + 0
        rw [h_e4 (by decide), Int64.add_zero]
      · show (f_X3_close c i).cj i 9 = 0
        rw [h_e4 (by decide)]; exact e9
      · exact absurd h (by show ¬ (f_X3_close c i).ci i 8 = 0; rw [h_e1]; decide)
      · show ((f_X3_close c i).cj i 14).toInt ≤ 270 * ((f_X3_close c i).cj i 13).toInt + 2040
        rw [h_e4 (by decide), h_e4 (by decide)]; exact x4
  · obtain ⟨v1, ⟨vf, v5, v9, v15, vi, v17, vj, vp, vd, vn⟩, g1, g2, g3, g4⟩ := re_srv hl rfl b9.1 b9.2.1 (by omega) b5.1 b5.2 b10.1 (by omega) (by omega)
    obtain ⟨q1, q2, q3⟩ := yA_b (x := c.ci i) (z := c.cj i) (w := c.ti 3) b9.1 b9.2.1 b9.2.2 (by omega) b5.1 b5.2
    generalize f_X3_hasBit (c.ti 9).toInt64 (c.ci i 0) = st at *
    have eX : yF (c.ci i) (c.cj i) (c.ti 3) + yG (c.ci i) (c.cj i) (c.ti 3) (c.tj 4) st = yA (c.ci i) (c.cj i) (c.ti 3) - yL (c.ci i) (c.cj i) (c.ti 3) (c.tj 4) st := by unfold yL; grind
    have rX : (yA (c.ci i) (c.cj i) (c.ti 3) - yL (c.ci i) (c.cj i) (c.ti 3) (c.tj 4) st).toInt = (yA (c.ci i) (c.cj i) (c.ti 3)).toInt - (yL (c.ci i) (c.cj i) (c.ti 3) (c.tj 4) st).toInt := re_sub (by omega) (by omega)
    rw [v15, v1]
    generalize (f_X3_serve c i).2 = c' at *
    refine ⟨vf, ?_, rfl, ⟨by rw [eX, rX]; omega, by rw [eX, rX]; omega⟩, vi 11 (by decide) (by decide), ?_⟩
    · by_cases hd : yD (c.ci i) (c.cj i) (c.ti 3) (c.tj 4) st
      · obtain ⟨u1, u2, u3⟩ := vd hd
        rw [u2, u3]; grind
      · obtain ⟨u1, u2, u3⟩ := vn hd
        rw [u2, u3]; grind
    · have x4' : (c'.cj i 14).toInt ≤ 270 * (c'.cj i 13).toInt + 2040 := by
        rw [vj 14 (by decide) (by decide) (by decide) (by decide), vj 13 (by decide) (by decide) (by decide) (by decide)]; exact x4
      have x2' : c'.ci i 1 = 0 → c'.cj i 9 = 0 := fun h => absurd (by rw [← vi 1 (by decide) (by decide)]; exact h) hl
      by_cases hd : yD (c.ci i) (c.cj i) (c.ti 3) (c.tj 4) st
      · obtain ⟨u1, u2, u3⟩ := vd hd
        exact ⟨fun _ => u2, x2', fun h => absurd h (by rw [u1]; decide), x4'⟩
      · obtain ⟨u1, u2, u3⟩ := vn hd
        refine ⟨fun h => absurd (u1.trans ho) h, x2', fun _ h7 => Or.inl ?_, x4'⟩
        rw [v5]
        split
        · rfl
        · rename_i hne
          rw [vi 7 (by decide) (by decide)] at h7
          rcases x3 ho h7 with e | ⟨e, _⟩
          · exact e
          · exact absurd (re_ieq.mpr e.symm) hne
def ZY (n : Nat) (c0 : CC) (k : Nat) (s : Int64) (c : CC) : Prop :=
  (c.tj 4 + sA c n = c0.tj 4 + sA c0 n ∧ sP c n = sP c0 n + s ∧ 0 ≤ s.toInt ∧ s.toInt ≤ 440000000 * k) ∧
  ∀ i, i < n → (c.ci i 11 = c0.ci i 11 ∧ (c.ci i 8 = 0 → c0.ci i 8 = 0)) ∧ XZ n k (c0.ti 3).toInt i (c.ci i) (c.cj i)
theorem XZ.next {n k : Nat} {yr : Int} {i : Nat} {x : Nat → Int32} {z : Nat → Int64} (h : XZ n k yr i x z) (hn : ¬ (x 8 = 0 ∧ ix (x 2) * n + i = k)) : XZ n (k + 1) yr i x z := by
  obtain ⟨x1, x2, x3, x4⟩ := h
  refine ⟨x1, x2, fun h8 h7 => ?_, x4⟩
  rcases x3 h8 h7 with e | ⟨e, e2⟩
  · exact Or.inl e
  · refine Or.inr ⟨e, ?_⟩
    have : ¬ ix (x 2) * n + i = k := fun e => hn ⟨h8, e⟩
    omega
theorem z_rows {n no nt t y : Nat} {c : CC} {m : MC} (h : EQ n no nt c (g_X4_goesBy n m n)) (b : BG n no nt t (fun _ => y) c) (hy : y ≤ 59) (hx : ∀ i, i < n → XZ n 0 (c.ti 3).toInt i (c.ci i) (c.cj i)) : ∀ k, k ≤ 3 * n → ZY n c k (yC n c k).1 (yC n c k).2
  | 0, _ => ⟨⟨rfl, (Int64.add_zero _).symm, Int.le_refl _, Int.le_refl _⟩, fun i hi => ⟨⟨rfl, fun e => e⟩, hx i hi⟩⟩
  | k + 1, hk => by
    obtain ⟨⟨z1, z2, z3, z4⟩, z5⟩ := z_rows h b hy hx k (by omega)
    obtain ⟨i1, i2, i3, i4, i5⟩ := re_rows h b hy k (by omega)
    have hn0 : 0 < n := by omega
    have hi : k % n < n := Nat.mod_lt _ hn0
    have hn40 := b.1.1
    have hkn : k / n < 3 := by rw [Nat.div_lt_iff_lt_mul hn0]; omega
    have hk0 : k / n * n + k % n = k := by rw [Nat.mul_comm]; exact Nat.div_add_mod k n
    have bR : ∀ j, j < n → 0 ≤ (c.ci j 2).toInt ∧ (c.ci j 2).toInt ≤ 2 := fun j hj => (b.at hj).2.2.1
    have sk : ∀ j, j < n → (yC n c k).2.ci j 2 = c.ci j 2 := fun j _ => i5 j
    have key0 : ∀ R j, j < n → R * n + j = k → j = k % n ∧ R = k / n := by
      intro R j hj e
      have h1 : k / n = R := by
        rw [← e, Nat.mul_comm, Nat.mul_add_div hn0, Nat.div_eq_of_lt hj, Nat.add_zero]
      have h2 : k % n = j := by
        rw [← e, Nat.mul_comm, Nat.mul_add_mod, Nat.mod_eq_of_lt hj]
      exact ⟨h2.symm, h1.symm⟩
    have key : ∀ j, j < n → ix ((yC n c k).2.ci j 2) * n + j = k → j = k % n ∧ ix ((yC n c k).2.ci j 2) = k / n := fun j hj e => key0 _ j hj e
    have unch : (¬ ((yC n c k).2.ci (k % n) 8 = 0 ∧ (yC n c k).2.ci (k % n) 2 = nI (k / n))) → ZY n c (k + 1) (yC n c k).1 (yC n c k).2 := by
      intro hno
      refine ⟨⟨z1, z2, z3, by omega⟩, fun j hj => ⟨(z5 j hj).1, (z5 j hj).2.next ?_⟩⟩
      rintro ⟨h8, e⟩
      obtain ⟨e1, e2⟩ := key j hj e
      subst e1
      apply hno
      refine ⟨h8, ?_⟩
      rw [← e2, re_nIix]
      rw [sk _ hi, re_ile]; exact (bR _ hi).1
    have eY : yC n c (k + 1) = if (i_X0_isOpen (yC n c k).2 (k % n)) = 0 then yC n c k else (if ((yC n c k).2.ci (k % n) 2) = nI (k / n) then ((yC n c k).1 + (f_X3_serve (yC n c k).2 (k % n)).1, (f_X3_serve (yC n c k).2 (k % n)).2) else yC n c k) := rfl
    rw [eY]
    by_cases h8 : (yC n c k).2.ci (k % n) 8 = 0
    · rw [if_neg (fun e => (re_open.mp e) h8)]
      by_cases hr : (yC n c k).2.ci (k % n) 2 = nI (k / n)
      · rw [if_pos hr]
        have hR : ix (c.ci (k % n) 2) = k / n := by rw [← i5, hr, re_ixnI (by omega)]
        have bc := i3.at hi
        have hyf : (if ix (c.ci (k % n) 2) * n + k % n < k then y + 1 else y) = y := by
          rw [if_neg]; rw [hR]; omega
        rw [hyf] at bc
        have ht := b.1.2.2.2
        have hsz := i3.sz
        obtain ⟨q1, q2, q3, q4, q5, q6⟩ := z_serve bc hy hsz ht h8 (by rw [i4]; exact (z5 _ hi).2)
        rw [i4] at q6
        generalize f_X3_serve (yC n c k).2 (k % n) = F at *
        generalize (yC n c k).2 = c1 at *
        generalize (yC n c k).1 = s1 at *
        have eT : F.2.cj (k % n) 10 + F.2.cj (k % n) 15 = c1.cj (k % n) 10 + c1.cj (k % n) 15 + (c1.tj 4 - F.2.tj 4) := by grind
        have eA := sA_one hi (fun j e => (q1.2.2.1 j e).2.1) eT
        have eP := sP_one hi (fun j e => (q1.2.2.1 j e).2.1) q3
        have eS : (s1 + F.1).toInt = s1.toInt + F.1.toInt := re_add (by omega) (by omega)
        refine ⟨⟨?_, ?_, by rw [eS]; omega, by rw [eS]; omega⟩, fun j hj => ?_⟩
        · show F.2.tj 4 + sA F.2 n = _
          rw [eA, ← z1]; grind
        · show sP F.2 n = _ + (s1 + F.1)
          rw [eP, z2, Int64.add_assoc]
        · by_cases e : j = k % n
          · subst e
            refine ⟨⟨q5.trans (z5 _ hi).1.1, fun _ => (z5 _ hi).1.2 h8⟩, q6⟩
          · show (F.2.ci j 11 = _ ∧ (F.2.ci j 8 = 0 → _)) ∧ XZ n (k + 1) _ j (F.2.ci j) (F.2.cj j)
            rw [(q1.2.2.1 j e).1, (q1.2.2.1 j e).2.1]
            refine ⟨(z5 j hj).1, (z5 j hj).2.next ?_⟩
            rintro ⟨_, e2⟩
            exact e (key j hj e2).1
      · rw [if_neg hr]
        exact unch (fun e => hr e.2)
    · rw [if_pos (re_open.mpr h8)]
      exact unch (fun e => h8 e.1)
theorem z_judge {c : CC} : ∀ k, (g_X3_judgeSuits c k).ti = c.ti ∧ (g_X3_judgeSuits c k).tj = c.tj ∧ (g_X3_judgeSuits c k).cj = c.cj ∧ (∀ j q, q ≠ 11 → (g_X3_judgeSuits c k).ci j q = c.ci j q) ∧ (∀ j, k ≤ j → (g_X3_judgeSuits c k).ci j = c.ci j) ∧ ∀ j, j < k → c.ci j 8 = 0 → ¬ (g_X3_judgeSuits c k).ci j 11 = 1
  | 0 => ⟨rfl, rfl, rfl, fun _ _ _ => rfl, fun _ _ => rfl, fun _ h => absurd h (Nat.not_lt_zero _)⟩
  | k + 1 => by
    obtain ⟨a1, a2, a3, a4, a5, a6⟩ := z_judge (c := c) k
    rw [g_X3_judgeSuits_s]
    generalize g_X3_judgeSuits c k = c1 at *
    have h8 : c1.ci k 8 = c.ci k 8 := a4 k 8 (by decide)
    by_cases ho : c.ci k 8 = 0
    · rw [if_neg (fun e => (re_open.mp e) (h8.trans ho))]
      by_cases h11 : c1.ci k 11 = 1
      · rw [if_pos h11]
        refine ⟨a1, a2, a3, fun j q hq => (h_b6 hq).trans (a4 j q hq), fun j hj => (h_b2 (by omega)).trans (a5 j (by omega)), fun j hj h => ?_⟩
        by_cases e : j = k
        · subst e; rw [h_b1]; decide
        · rw [h_b2 e]; exact a6 j (by omega) h
      · rw [if_neg h11]
        refine ⟨a1, a2, a3, a4, fun j hj => a5 j (by omega), fun j hj h => ?_⟩
        by_cases e : j = k
        · subst e; exact h11
        · exact a6 j (by omega) h
    · rw [if_pos (re_open.mpr (fun e => ho (h8.symm.trans e)))]
      refine ⟨a1, a2, a3, a4, fun j hj => a5 j (by omega), fun j hj h => ?_⟩
      by_cases e : j = k
      · subst e; exact absurd h ho
      · exact a6 j (by omega) h
theorem sA_cg {c c' : CC} (h : c'.cj = c.cj) (k : Nat) : sA c' k = sA c k := sA_ext fun i _ => by rw [h]; exact ⟨rfl, rfl⟩
theorem sP_cg {c c' : CC} (h : c'.cj = c.cj) (k : Nat) : sP c' k = sP c k := sP_ext fun i _ => by rw [h]
/-- what a year does -/
theorem z_pass {n no nt t : Nat} {c : CC} (I : IV n no nt t c) (hy : ix (c.ti 3) ≤ 59) :
    IV n no nt t (f_X3_passYear n c).2 ∧ ((f_X3_passYear n c).2.ti 3 = c.ti 3 + 1 ∧ ∀ k, k ≠ 3 → (f_X3_passYear n c).2.ti k = c.ti k) ∧ (0 ≤ (f_X3_passYear n c).1.toInt ∧ (f_X3_passYear n c).1.toInt ≤ 60000000000) ∧
    (f_X3_passYear n c).2.tj 4 + sA (f_X3_passYear n c).2 n = c.tj 4 + sA c n + f_X3_broughtBy c (c.tj 5) ∧ sP (f_X3_passYear n c).2 n = sP c n + (f_X3_passYear n c).1 ∧
    ∀ i, i < n → (f_X3_passYear n c).2.ci i 11 = 1 → ¬ (f_X3_passYear n c).2.ci i 8 = 0 := by
  obtain ⟨⟨m, h, b⟩, x⟩ := I
  obtain ⟨r1, r2, r3, r4⟩ := re_goes h b hy
  obtain ⟨y1, y2, y3, y4⟩ := re_y0 h b hy
  obtain ⟨j1, j2, j3⟩ := re_judge (m := m) y1 y2 n (Nat.le_refl _)
  obtain ⟨a1, a2, a3, a4, a5, a6⟩ := z_judge (c := yC0 c) n
  have hn40 := b.1.1
  have hty := b.2.1
  have e3 : (c.ti 3 + 1).toInt = (c.ti 3).toInt + 1 := by
    rw [re_iadd (by rw [show (1 : Int32).toInt = 1 from rfl]; omega) (by rw [show (1 : Int32).toInt = 1 from rfl]; omega)]; rfl
  have hc0 : (g_X3_passYear n c 0).2 = g_X3_judgeSuits (yC0 c) n := rfl
  have ea : yC n (g_X3_judgeSuits (yC0 c) n) (3 * n) = g_X3_passYear n c 3 := by rw [← hc0]; exact yC_all 3
  have hx : ∀ i, i < n → XZ n 0 ((g_X3_judgeSuits (yC0 c) n).ti 3).toInt i ((g_X3_judgeSuits (yC0 c) n).ci i) ((g_X3_judgeSuits (yC0 c) n).cj i) := by
    intro i hi
    obtain ⟨x1, x2, x3, x4⟩ := x.2 i hi
    unfold XZ
    rw [j3, y3, e3, a4 i 8 (by decide), a4 i 1 (by decide), a4 i 7 (by decide), a3]
    refine ⟨x1, x2, fun h8 h7 => ?_, x4⟩
    change (c.ci i 7).toInt ≤ _ at h7
    by_cases e : (c.ci i 7).toInt = (c.ti 3).toInt + 1
    · exact Or.inr ⟨e, Nat.zero_le _⟩
    · exact Or.inl (x3 h8 (by omega))
  obtain ⟨⟨z1, z2, z3, z4⟩, z5⟩ := z_rows j1 j2 hy hx (3 * n) (Nat.le_refl _)
  obtain ⟨l1, l2, l3, l4, l5⟩ := re_rows j1 j2 hy (3 * n) (Nat.le_refl _)
  rw [ea] at z1 z2 z3 z4 z5 l4 l5
  have et : (f_X3_passYear n c).2.ti = (yC0 c).ti := l4.trans j3
  have a3' : (g_X3_judgeSuits (yC0 c) n).cj = c.cj := a3
  have eA0 : sA (g_X3_judgeSuits (yC0 c) n) n = sA c n := sA_cg a3' n
  have eP0 : sP (g_X3_judgeSuits (yC0 c) n) n = sP c n := sP_cg a3' n
  have e4 : (g_X3_judgeSuits (yC0 c) n).tj 4 = c.tj 4 + f_X3_broughtBy c (c.tj 5) := by rw [a2]; rfl
  have et3 : (f_X3_passYear n c).2.ti 3 = c.ti 3 + 1 := by rw [et]; exact y3
  refine ⟨⟨⟨_, r2, r3⟩, ⟨by rw [et]; exact x.1, fun i hi => ?_⟩⟩, ⟨et3, fun k hk => ?_⟩, ⟨z3, ?_⟩, ?_, ?_, fun i hi h11 h8 => ?_⟩
  · obtain ⟨_, x1, x2, x3, x4⟩ := z5 i hi
    rw [et3, e3]
    refine ⟨x1, x2, fun h8 h7 => ?_, x4⟩
    rw [j3, y3, e3] at x3
    rcases x3 h8 h7 with e | ⟨_, e⟩
    · exact e
    · exfalso
      have hr : 0 ≤ ((f_X3_passYear n c).2.ci i 2).toInt ∧ ((f_X3_passYear n c).2.ci i 2).toInt ≤ 2 := (BG.at r3 hi).2.2.1
      have hq : ix ((g_X3_passYear n c 3).2.ci i 2) ≤ 2 := by rw [re_ix]; have := hr.2; change ((g_X3_passYear n c 3).2.ci i 2).toInt ≤ 2 at this; omega
      have := Nat.mul_le_mul_right n hq
      omega
  · rw [et]; exact if_neg hk
  · have : (g_X3_passYear n c 3).1.toInt ≤ 440000000 * ((3 * n : Nat) : Int) := z4
    show (g_X3_passYear n c 3).1.toInt ≤ _
    omega
  · show (g_X3_passYear n c 3).2.tj 4 + sA (g_X3_passYear n c 3).2 n = _
    rw [z1, eA0, e4]; grind
  · show sP (g_X3_passYear n c 3).2 n = _ + (g_X3_passYear n c 3).1
    rw [z2, eP0]
  · obtain ⟨⟨w1, w2⟩, _⟩ := z5 i hi
    have h8' := w2 h8
    rw [a4 i 8 (by decide)] at h8'
    exact a6 i hi h8' (w1.symm.trans h11)
theorem p_year {n no nt t : Nat} {c : CC} (I : IV n no nt t c) :
    (c.ti 3 = 60 ∧ f_X3_year n c 1 = (.inr 2, c)) ∨ (ix (c.ti 3) ≤ 59 ∧ f_X3_year n c 1 = (.inl (some (.long (f_X3_passYear n c).1)), (f_X3_passYear n c).2)) := by
  have hty := I.b.2.1
  have e3 : (c.ti 3 + 1).toInt = (c.ti 3).toInt + 1 := by
    rw [re_iadd (by rw [show (1 : Int32).toInt = 1 from rfl]; omega) (by rw [show (1 : Int32).toInt = 1 from rfl]; omega)]; rfl
  unfold f_X3_year
  rw [if_pos (by decide : rng 1 1 10)]
  by_cases h : c.ti 3 + 1 ≤ 60
  · rw [if_pos h]
    rw [re_ile, e3, show (60 : Int32).toInt = 60 from rfl] at h
    refine Or.inr ⟨by rw [re_ix]; omega, ?_⟩
    show (Sum.inl (some (Value.long (0 + (f_X3_passYear n c).1))), (f_X3_passYear n c).2) = _
    rw [Int64.zero_add]
  · rw [if_neg h]
    rw [re_ile, e3, show (60 : Int32).toInt = 60 from rfl] at h
    refine Or.inl ⟨?_, rfl⟩
    rw [re_ieq, show (60 : Int32).toInt = 60 from rfl]; omega
