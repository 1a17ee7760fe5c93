/-! THE RELATION, 10: the years -/
theorem BG.mono {n no nt t t' : Nat} {yf yf' : Nat → Nat} {c : CC} (b : BG n no nt t yf c) (ht : t ≤ t') (ht' : t' ≤ 600) (hy : ∀ j, j < n → yf j ≤ yf' j) : BG n no nt t' yf' c := by
  obtain ⟨b0, b1, b2, b3, b4, b5, b6, b7, b8, b9, b10, b11⟩ := b
  exact ⟨⟨b0.1, b0.2.1, b0.2.2.1, ht'⟩, b1, b2, b3, b4, b5, b6, b7, b8, fun i hi => (b9 i hi).mono ht (Nat.le_refl _) (hy i hi) (Int.le_refl _), b10, b11⟩
theorem ES.cg {n : Nat} {c c' : CC} {m m' : MC} (h : ES n c m) (hi : c'.ci = c.ci) (hj : c'.cj = c.cj) (h28 : m'.ai 28 = m.ai 28) (h29 : m'.aj 29 = m.aj 29) (h30 : m'.aj 30 = m.aj 30) : ES n c' m' := by
  intro k hk
  rw [h28, h29, h30, re_eff_cg (c := c) (fun i _ => by rw [hi, hj]; exact ⟨rfl, rfl, rfl⟩), re_was_cg (c := c) (fun i _ => by rw [hi]; exact ⟨rfl, Iff.rfl⟩)]
  exact h k hk
def yC0 (c : CC) : CC := ((c.ptj 4 ((c.tj 4) + (f_X3_broughtBy c (c.tj 5)))).ptj 5 (f_X3_grown (c.ptj 4 ((c.tj 4) + (f_X3_broughtBy c (c.tj 5)))) (c.tj 5))).pti 3 ((c.ti 3) + 1)
theorem re_y0 {n no nt t : Nat} {c : CC} {m : MC} (h : EQ n no nt c m) (b : BD n no nt t c) (hy : ix (c.ti 3) ≤ 59) :
    EQ n no nt (yC0 c) (g_X4_goesBy n m 0) ∧ BG n no nt t (fun _ => ix (c.ti 3)) (yC0 c) ∧ (yC0 c).ti 3 = c.ti 3 + 1 ∧ ix (c.ti 3 + 1) = ix (c.ti 3) + 1 := by
  obtain ⟨h0, hs⟩ := h
  obtain ⟨e7, e23, e31, s1, s2, s3, s4, s5, s6, s7, s8, s9, er, nr, eo, ev, eg, ng, eb, ea⟩ := h0
  obtain ⟨b0, b1, b2, b3, b4, b5, b6, b7, b8, b9, b10, b11⟩ := b
  have hg := gB_le9 (show ix (c.ti 3) ≤ 90 by omega)
  have hl := gL_ge (show ix (c.ti 3) ≤ 90 by omega)
  obtain ⟨w1, w2, w3⟩ := re_brg (c := c) (m := m) (x := c.tj 5) s5 (by omega) (by omega) b3.1 b3.2
  obtain ⟨v1, v2, v3⟩ := re_grw (c := c) (m := m) s4 (show ix (c.ti 3) ≤ 89 by omega) b8.1 b8.2 b2.1 b2.2
  have ey : (c.ti 3 + 1).toInt = (c.ti 3).toInt + 1 := by
    rw [re_iadd (by rw [show (1 : Int32).toInt = 1 from rfl]; omega) (by rw [show (1 : Int32).toInt = 1 from rfl]; omega)]; rfl
  have h59 : (c.ti 3).toInt ≤ 59 := by rw [re_ix] at hy; omega
  have eix : ix (c.ti 3 + 1) = ix (c.ti 3) + 1 := by rw [re_ix, re_ix, ey]; omega
  refine ⟨⟨⟨e7, e23, e31, ?_, ?_, ?_, s4, s5, s6, s7, s8, s9, er, nr, eo, ev, eg, ng, eb, ea⟩, hs.cg rfl rfl rfl rfl rfl⟩, ?_, rfl, eix⟩
  · show m.ti 1 + 1 = c.ti 3 + 1
    rw [s1]
  · show m.tj 2 + f_X4_down (m.tj 3 * ((m.ti 5 : Int32).toInt64)) 1000 = c.tj 4 + f_X3_broughtBy c (c.tj 5)
    rw [s3, w1, s2]
  · show m.tj 3 + f_X4_down (m.tj 3 * ((m.ti 4 : Int32).toInt64)) 10000 = f_X3_grown c (c.tj 5)
    rw [s3, v1]
  · refine ⟨b0, ?_, b2, b3, b4, b5, b6, b7, ?_, fun i hi => ?_, b10, b11⟩
    · show 0 ≤ (c.ti 3 + 1).toInt ∧ (c.ti 3 + 1).toInt ≤ 60
      rw [ey]; omega
    · show gL (ix (c.ti 3 + 1)) ≤ (f_X3_grown c (c.tj 5)).toInt ∧ (f_X3_grown c (c.tj 5)).toInt ≤ gB (ix (c.ti 3 + 1))
      rw [eix]; exact ⟨v2, v3⟩
    · refine (b9 i hi).mono (Nat.le_refl _) (Nat.le_refl _) (Nat.le_refl _) ?_
      show _ ≤ (c.ti 3 + 1).toInt
      rw [ey]; omega
theorem re_suit {n no nt t i : Nat} {yf : Nat → Nat} {c : CC} {m : MC} {v v' : Int32} {g : Int32} (h : EQ n no nt c m) (b : BG n no nt t yf c) (hi : i < n) (hv : v = v') : EQ n no nt (c.pci i 11 v) (m.pai 20 i v') ∧ BG n no nt t yf (c.pci i 11 v) := by
  obtain ⟨h0, hs⟩ := h
  have h0' := h0
  obtain ⟨e7, e23, e31, s1, s2, s3, s4, s5, s6, s7, s8, s9, er, nr, eo, ev, eg, ng, eb, ea⟩ := h0
  obtain ⟨a0, a1, a2, a3, a4, a5, a6, a7, a8, a9, r0, r1, r2, r3⟩ := er i hi
  have fc : Fc i c (c.pci i 11 v) := Fc.rf.pci
  have fm : Fm i m (m.pai 20 i v') := Fm.rf.pai (by decide) (by decide)
  have x : ∀ k, k ≠ 11 → (c.pci i 11 v).ci i k = c.ci i k := fun k hk => h_b6 hk
  have y : ∀ f, f ≠ 20 → (m.pai 20 i v').ai f i = m.ai f i := fun f hf => congrFun (k_b2 hf) i
  refine ⟨⟨h0'.claim hi fc fm s2 ?_, hs.claim fc fm (x 0 (by decide)) (by rw [x 8 (by decide)]) rfl rfl⟩, b.claim fc (fun j _ => Nat.le_refl _) ?_⟩
  · unfold ER
    rw [x 0 (by decide), x 1 (by decide), x 2 (by decide), x 3 (by decide), x 4 (by decide), x 6 (by decide), x 7 (by decide), x 8 (by decide), x 12 (by decide), h_b1,
      y 8 (by decide), y 9 (by decide), y 13 (by decide), y 14 (by decide), y 15 (by decide), y 11 (by decide), y 12 (by decide), y 16 (by decide), y 21 (by decide), k_b1]
    exact ⟨a0, a1, a2, a3, a4, a5, a6, a7, hv.symm, a9, r0, r1, r2, r3⟩
  · have bc := b.at hi
    unfold BC at *
    rw [x 0 (by decide), x 1 (by decide), x 2 (by decide), x 3 (by decide), x 4 (by decide), x 6 (by decide), x 7 (by decide), x 8 (by decide), x 17 (by decide)]
    exact bc
theorem re_same {n no nt t i : Nat} {yf : Nat → Nat} {c : CC} {m : MC} (h : EQ n no nt c m) (hi : i < n) : EQ n no nt c (m.pai 20 i (m.ai 20 i)) := by
  obtain ⟨h0, hs⟩ := h
  have h0' := h0
  obtain ⟨e7, e23, e31, s1, s2, s3, s4, s5, s6, s7, s8, s9, er, nr, eo, ev, eg, ng, eb, ea⟩ := h0
  obtain ⟨a0, a1, a2, a3, a4, a5, a6, a7, a8, a9, r0, r1, r2, r3⟩ := er i hi
  have fm : Fm i m (m.pai 20 i (m.ai 20 i)) := Fm.rf.pai (by decide) (by decide)
  have y : ∀ f, f ≠ 20 → (m.pai 20 i (m.ai 20 i)).ai f i = m.ai f i := fun f hf => congrFun (k_b2 hf) i
  refine ⟨h0'.claim hi Fc.rf fm s2 ?_, hs.claim Fc.rf fm rfl Iff.rfl rfl rfl⟩
  unfold ER
  rw [y 8 (by decide), y 9 (by decide), y 13 (by decide), y 14 (by decide), y 15 (by decide), y 11 (by decide), y 12 (by decide), y 16 (by decide), y 21 (by decide), k_b1]
  exact ⟨a0, a1, a2, a3, a4, a5, a6, a7, a8, a9, r0, r1, r2, r3⟩
theorem re_judge {n no nt t : Nat} {yf : Nat → Nat} {c : CC} {m : MC} (h : EQ n no nt c (g_X4_goesBy n m 0)) (b : BG n no nt t yf c) : ∀ k, k ≤ n →
    EQ n no nt (g_X3_judgeSuits c k) (g_X4_goesBy n m k) ∧ BG n no nt t yf (g_X3_judgeSuits c k) ∧ (g_X3_judgeSuits c k).ti = c.ti
  | 0, _ => ⟨h, b, rfl⟩
  | k + 1, hk => by
    obtain ⟨i1, i2, i3⟩ := re_judge h b k (by omega)
    obtain ⟨a0, a1, a2, a3, a4, a5, a6, a7, a8, a9, r0, r1, r2, r3⟩ := i1.1.2.2.2.2.2.2.2.2.2.2.2.2.1 k (by omega)
    unfold g_X3_judgeSuits g_X4_goesBy
    generalize g_X3_judgeSuits c k = c1 at *
    generalize g_X4_goesBy n m k = m1 at *
    rw [a8, a7]
    by_cases h11 : c1.ci k 11 = 1
    · rw [if_pos h11, if_pos h11]
      by_cases h8 : c1.ci k 8 = 0
      · rw [if_neg (fun e => (re_open.mp e) h8), if_pos h8]
        obtain ⟨x1, x2⟩ := re_suit (g := 0) i1 i2 (show k < n by omega) (show (2 : Int32) = 2 from rfl)
        exact ⟨x1, x2, i3⟩
      · rw [if_pos (re_open.mpr h8), if_neg h8, ← a8]
        exact ⟨re_same (t := 0) (yf := fun _ => 0) i1 (by omega), i2, i3⟩
    · rw [if_neg h11, if_neg h11, ite_self, ← a8]
      exact ⟨re_same (t := 0) (yf := fun _ => 0) i1 (by omega), i2, i3⟩
/-- the class's ranks and claims, one after the other -/
def yC (n : Nat) (c : CC) : Nat → Int64 × CC
  | 0 => (0, c)
  | k + 1 => if (i_X0_isOpen (yC n c k).2 (k % n)) = 0 then yC n c k else (if ((yC n c k).2.ci (k % n) 2) = nI (k / n) then ((yC n c k).1 + (f_X3_serve (yC n c k).2 (k % n)).1, (f_X3_serve (yC n c k).2 (k % n)).2) else yC n c k)
theorem yC_row {n : Nat} {c c0 : CC} {r : Nat} {s0 : Int64} (h : yC n c0 (r * n) = (s0, c)) : ∀ k, k ≤ n → yC n c0 (r * n + k) = (s0 + (g_X3_serveRank c (nI r) k).1, (g_X3_serveRank c (nI r) k).2)
  | 0, _ => by
    show yC n c0 (r * n) = (s0 + 0, c)
    rw [h, Int64.add_zero]
  | k + 1, hk => by
    have ih := yC_row h k (by omega)
    have e1 : (r * n + k) % n = k := by rw [Nat.mul_comm, Nat.mul_add_mod, Nat.mod_eq_of_lt (by omega)]
    have e2 : (r * n + k) / n = r := by
      rw [Nat.mul_comm, Nat.mul_add_div (by omega), Nat.div_eq_of_lt (by omega), Nat.add_zero]
    show yC n c0 ((r * n + k) + 1) = _
    unfold yC g_X3_serveRank
    rw [ih, e1, e2]
    simp only
    split
    · rfl
    · split
      · rw [Int64.add_assoc]
      · rfl
theorem yC_all {n : Nat} {c : CC} : ∀ r, yC n (g_X3_passYear n c 0).2 (r * n) = g_X3_passYear n c r
  | 0 => by rw [Nat.zero_mul]; rfl
  | r + 1 => by
    have h := yC_row (s0 := (g_X3_passYear n c r).1) (c := (g_X3_passYear n c r).2) (by rw [yC_all r]) n (Nat.le_refl _)
    rw [Nat.succ_mul, h]
    rfl
theorem re_rows {n no nt t y : Nat} {c : CC} {m : MC} (h : EQ n no nt c (g_X4_goesBy n m n)) (b : BG n no nt t (fun _ => y) c) (hy : y ≤ 59) : ∀ k, k ≤ 3 * n →
    (g_X4_goesBy1 n m k).1 = (yC n c k).1 ∧ EQ n no nt (yC n c k).2 (g_X4_goesBy1 n m k).2 ∧ BG n no nt t (fun j => if ix (c.ci j 2) * n + j < k then y + 1 else y) (yC n c k).2 ∧ (yC n c k).2.ti = c.ti ∧ ∀ j, (yC n c k).2.ci j 2 = c.ci j 2
  | 0, _ => ⟨rfl, h, b.mono (Nat.le_refl _) b.1.2.2.2 (fun j _ => by rw [if_neg (Nat.not_lt_zero _)]; exact Nat.le_refl _), rfl, fun _ => rfl⟩
  | k + 1, hk => by
    obtain ⟨i1, i2, i3, i4, i5⟩ := re_rows h b hy k (by omega)
    have hn0 : 0 < n := by omega
    have hi : k % n < n := Nat.mod_lt _ hn0
    have hn40 := b.1.1
    obtain ⟨a0, a1, a2, a3, a4, a5, a6, a7, a8, a9, r0, r1, r2, r3⟩ := i2.1.2.2.2.2.2.2.2.2.2.2.2.2.1 (k % n) hi
    have mon : BG n no nt t (fun j => if ix (c.ci j 2) * n + j < k + 1 then y + 1 else y) (yC n c k).2 := i3.mono (Nat.le_refl _) b.1.2.2.2 (fun j _ => by
      show (if _ then y + 1 else y) ≤ (if _ then y + 1 else y)
      split
      · rw [if_pos (by omega)]; exact Nat.le_refl _
      · split
        · exact Nat.le_succ _
        · exact Nat.le_refl _)
    unfold yC g_X4_goesBy1
    rw [a7, a2]
    by_cases h8 : (yC n c k).2.ci (k % n) 8 = 0
    · rw [if_neg (fun e => (re_open.mp e) h8), if_pos h8]
      by_cases hr : (yC n c k).2.ci (k % n) 2 = nI (k / n)
      · rw [if_pos hr, if_pos hr]
        have hkn : k / n < 3 := by rw [Nat.div_lt_iff_lt_mul hn0]; omega
        have hR : ix (c.ci (k % n) 2) = k / n := by rw [← i5, hr, re_ixnI (by omega)]
        have hk0 : k / n * n + k % n = k := by rw [Nat.mul_comm]; exact Nat.div_add_mod k n
        have hyf : (fun j => if ix (c.ci j 2) * n + j < k then y + 1 else y) (k % n) = y := by
          show (if _ then y + 1 else y) = y
          rw [if_neg]; rw [hR]; omega
        obtain ⟨q1, q2, q3, q4, q5⟩ := re_step i2 i3 hi hyf hy h8
        refine ⟨by rw [i1, q1], q2, q3.mono (Nat.le_refl _) b.1.2.2.2 (fun j hj => ?_), q4.1.trans i4, fun j => ?_⟩
        · show (if j = k % n then y + 1 else if _ then y + 1 else y) ≤ (if _ then y + 1 else y)
          by_cases e : j = k % n
          · rw [if_pos e, if_pos]
            · exact Nat.le_refl _
            · rw [e, hR]; omega
          · rw [if_neg e]
            split
            · rw [if_pos (by omega)]; exact Nat.le_refl _
            · split
              · exact Nat.le_succ _
              · exact Nat.le_refl _
        · by_cases e : j = k % n
          · rw [e]; exact q5.trans (i5 _)
          · rw [(q4.2.2.1 j e).1]; exact i5 j
      · rw [if_neg hr, if_neg hr, Int64.add_zero]
        exact ⟨i1, i2, mon, i4, i5⟩
    · rw [if_pos (re_open.mpr h8), if_neg h8, Int64.add_zero]
      exact ⟨i1, i2, mon, i4, i5⟩
theorem re_goes {n no nt t : Nat} {c : CC} {m : MC} (h : EQ n no nt c m) (b : BD n no nt t c) (hy : ix (c.ti 3) ≤ 59) :
    (f_X4_goesBy n m).1 = (f_X3_passYear n c).1 ∧ EQ n no nt (f_X3_passYear n c).2 (f_X4_goesBy n m).2 ∧ BD n no nt t (f_X3_passYear n c).2 ∧ ix ((f_X3_passYear n c).2.ti 3) = ix (c.ti 3) + 1 := by
  obtain ⟨y1, y2, y3, y4⟩ := re_y0 h b hy
  obtain ⟨j1, j2, j3⟩ := re_judge (m := m) y1 y2 n (Nat.le_refl _)
  have hc0 : (g_X3_passYear n c 0).2 = g_X3_judgeSuits (yC0 c) n := rfl
  obtain ⟨l1, l2, l3, l4, l5⟩ := re_rows j1 j2 hy (3 * n) (Nat.le_refl _)
  have ea : yC n (g_X3_judgeSuits (yC0 c) n) (3 * n) = g_X3_passYear n c 3 := by rw [← hc0]; exact yC_all 3
  rw [ea] at l1 l2 l3 l4
  have et : ix ((g_X3_passYear n c 3).2.ti 3) = ix (c.ti 3) + 1 := by rw [l4, j3, y3, y4]
  refine ⟨l1, l2, ?_, et⟩
  refine l3.mono (Nat.le_refl _) b.1.2.2.2 (fun j hj => ?_)
  show (if _ then ix (c.ti 3) + 1 else ix (c.ti 3)) ≤ ix ((g_X3_passYear n c 3).2.ti 3)
  rw [et]
  split
  · exact Nat.le_refl _
  · exact Nat.le_succ _
theorem re_itp {p : Int64 × MC → Prop} {q : Prop} [Decidable q] {a b : Int64 × MC} (h1 : p a) (h2 : p b) : p (if q then a else b) := by
  split
  · exact h1
  · exact h2
theorem re_lt0 {m : MC} {k : Nat} : (f_X4_looksAt m k).2.ti = m.ti := by
  have h : (fun X : Int64 × MC => X.2.ti = m.ti) (f_X4_looksAt m k) := by
    unfold f_X4_looksAt
    repeat' first | refine re_itp (p := fun X : Int64 × MC => X.2.ti = m.ti) ?_ ?_ | exact rfl
  exact h
theorem re_gt0 {n : Nat} {m : MC} : (f_X4_goesBy n m).2.ti 0 = m.ti 0 := by
  have j : ∀ k, (g_X4_goesBy n m k).ti 0 = m.ti 0 := by
    intro k
    induction k with
    | zero => rfl
    | succ k ih =>
      unfold g_X4_goesBy
      repeat' split
      all_goals exact ih
  have l : ∀ k, (g_X4_goesBy1 n m k).2.ti 0 = m.ti 0 := by
    intro k
    induction k with
    | zero => exact j n
    | succ k ih =>
      unfold g_X4_goesBy1
      split
      · split
        · show (f_X4_looksAt _ _).2.ti 0 = m.ti 0
          rw [re_lt0]; exact ih
        · exact ih
      · exact ih
  exact l (3 * n)
theorem re_years {n no nt t : Nat} {c : CC} {m : MC} (h : EQ n no nt c m) (b : BD n no nt t c) : ∀ k, ix (c.ti 3) + k ≤ 60 →
    (g_X4_year n m k).1 = (g_X3_year n c k).1 ∧ EQ n no nt (g_X3_year n c k).2 (g_X4_year n m k).2 ∧ BD n no nt t (g_X3_year n c k).2 ∧ ix ((g_X3_year n c k).2.ti 3) = ix (c.ti 3) + k ∧ (g_X4_year n m k).2.ti 0 = 0
  | 0, _ => ⟨rfl, h, b, rfl, rfl⟩
  | k + 1, hk => by
    obtain ⟨i1, i2, i3, i4, i5⟩ := re_years h b k (by omega)
    obtain ⟨q1, q2, q3, q4⟩ := re_goes i2 i3 (by omega)
    refine ⟨?_, q2, q3, by show ix ((f_X3_passYear n (g_X3_year n c k).2).2.ti 3) = _; rw [q4, i4]; omega, ?_⟩
    · show (g_X4_year n m k).1 + (f_X4_goesBy n (g_X4_year n m k).2).1 = (g_X3_year n c k).1 + (f_X3_passYear n (g_X3_year n c k).2).1
      rw [i1, q1]
    · show (f_X4_goesBy n (g_X4_year n m k).2).2.ti 0 = 0
      rw [re_gt0, i5]
