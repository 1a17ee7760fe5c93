/-! THE RELATION, 18: swaps, both sides -/
theorem worth_cg {c c' : CC} {i : Nat} {w r : Int32} (h8 : c'.ci i 8 = c.ci i 8) (h6 : c'.ci i 6 = c.ci i 6) (h7 : c'.ci i 7 = c.ci i 7) (h5 : c'.cj i 5 = c.cj i 5) (h9 : c'.cj i 9 = c.cj i 9) : f_X0_worth c' i w r = f_X0_worth c i w r := by
  unfold f_X0_worth i_X0_isOpen
  rw [h8, h6, h7, h5, h9]
def swX (n : Nat) (c : CC) (i j : Nat) : CC := f_X0_setTerms (c.newc n (clI (c.ci i 0) (c.ci i 1) (c.ci i 2) (c.ci i 3) (c.ci i 4)) (fun _ => 0)) n (i_X1_principalFor (c.newc n (clI (c.ci i 0) (c.ci i 1) (c.ci i 2) (c.ci i 3) (c.ci i 4)) (fun _ => 0)) j i) (c.oi j 1) ((c.ti 3) + (c.oi j 2))
theorem swc_eq {n : Nat} {c : CC} {i j : Nat} {k : Int32} : f_X3_swap n c i k j = (.inl none, n + 1, (((((((swX n c i j).pci n 12 k).pcj n 13 (f_X0_worth ((swX n c i j).pci n 12 k) i (c.ti 3) (c.ti 8))).pcj n 14 (f_X0_worth (((swX n c i j).pci n 12 k).pcj n 13 (f_X0_worth ((swX n c i j).pci n 12 k) i (c.ti 3) (c.ti 8))) n (c.ti 3) (c.ti 8))).pcj n 10
  (((((swX n c i j).pci n 12 k).pcj n 13 (f_X0_worth ((swX n c i j).pci n 12 k) i (c.ti 3) (c.ti 8))).pcj n 14 (f_X0_worth (((swX n c i j).pci n 12 k).pcj n 13 (f_X0_worth ((swX n c i j).pci n 12 k) i (c.ti 3) (c.ti 8))) n (c.ti 3) (c.ti 8))).cj i 10)).pcj i 10 0).pci i 8 2)) := rfl
/-- the class's swap, seen from each place -/
theorem sw_C {n : Nat} {c : CC} {i j : Nat} {k : Int32} (hi : i < n) {c' : CC} (hc : c' = (f_X3_swap n c i k j).2.2) :
    (c'.ti = c.ti ∧ c'.tj = c.tj ∧ c'.oi = c.oi ∧ c'.oj = c.oj ∧ c'.gi = c.gi) ∧ (∀ q, q ≠ n → q ≠ i → c'.ci q = c.ci q ∧ c'.cj q = c.cj q ∧ c'.pay q = c.pay q) ∧
    (c'.ci n = fun q => if q = 12 then k else if q = 7 then c.ti 3 + c.oi j 2 else if q = 6 then c.oi j 1 else clI (c.ci i 0) (c.ci i 1) (c.ci i 2) (c.ci i 3) (c.ci i 4) q) ∧
    (c'.cj n = fun q => if q = 10 then c.cj i 10 else if q = 14 then f_X3_discounted (i_X1_principalFor c j i) (c.oi j 1) (c.ti 3 + c.oi j 2 - c.ti 3) (c.ti 8) else if q = 13 then f_X0_worth c i (c.ti 3) (c.ti 8) else if q = 5 then i_X1_principalFor c j i else 0) ∧
    (c'.pay n = fun _ => 0) ∧ (c'.ci i = fun q => if q = 8 then 2 else c.ci i q) ∧ (c'.cj i = fun q => if q = 10 then 0 else c.cj i q) ∧ c'.pay i = c.pay i := by
  have hin : i ≠ n := by omega
  have hni : n ≠ i := by omega
  have eP : i_X1_principalFor (c.newc n (clI (c.ci i 0) (c.ci i 1) (c.ci i 2) (c.ci i 3) (c.ci i 4)) (fun _ => 0)) j i = i_X1_principalFor c j i := by
    unfold i_X1_principalFor i_X0_owed
    have e : (c.newc n (clI (c.ci i 0) (c.ci i 1) (c.ci i 2) (c.ci i 3) (c.ci i 4)) (fun _ => 0)).cj i = c.cj i := by
      show upr c.cj n (fun _ => 0) i = _
      unfold upr; rw [if_neg hin]
    rw [e]
  have x1 := nw_ci (n := n) (c := c) (kd := c.ci i 0) (ld := c.ci i 1) (rk := c.ci i 2) (sr := c.ci i 3) (hd := c.ci i 4) (p := i_X1_principalFor c j i) (q := c.oi j 1) (d := c.ti 3 + c.oi j 2)
  have x2 := nw_cj (n := n) (c := c) (kd := c.ci i 0) (ld := c.ci i 1) (rk := c.ci i 2) (sr := c.ci i 3) (hd := c.ci i 4) (p := i_X1_principalFor c j i) (q := c.oi j 1) (d := c.ti 3 + c.oi j 2)
  have x3 := nw_pay (n := n) (c := c) (kd := c.ci i 0) (ld := c.ci i 1) (rk := c.ci i 2) (sr := c.ci i 3) (hd := c.ci i 4) (p := i_X1_principalFor c j i) (q := c.oi j 1) (d := c.ti 3 + c.oi j 2)
  have x4 := fun q (hq : q ≠ n) => nw_ne (n := n) (j := q) (c := c) (kd := c.ci i 0) (ld := c.ci i 1) (rk := c.ci i 2) (sr := c.ci i 3) (hd := c.ci i 4) (p := i_X1_principalFor c j i) (q := c.oi j 1) (d := c.ti 3 + c.oi j 2) hq
  have xt : (swX n c i j).ti = c.ti := rfl
  have xj : (swX n c i j).tj = c.tj := rfl
  have xo : (swX n c i j).oi = c.oi ∧ (swX n c i j).oj = c.oj ∧ (swX n c i j).gi = c.gi := ⟨rfl, rfl, rfl⟩
  rw [swc_eq] at hc
  have eX : swX n c i j = f_X0_setTerms (c.newc n (clI (c.ci i 0) (c.ci i 1) (c.ci i 2) (c.ci i 3) (c.ci i 4)) (fun _ => 0)) n (i_X1_principalFor c j i) (c.oi j 1) ((c.ti 3) + (c.oi j 2)) := by
    unfold swX; rw [eP]
  rw [← eX] at x1 x2 x3 x4
  generalize swX n c i j = X at *
  have xi := x4 i hin
  have w1 : f_X0_worth (X.pci n 12 k) i (c.ti 3) (c.ti 8) = f_X0_worth c i (c.ti 3) (c.ti 8) := by
    have e : (X.pci n 12 k).ci i = c.ci i := (re_up hin).trans xi.1
    have e2 : (X.pci n 12 k).cj i = c.cj i := xi.2.1
    exact worth_cg (by rw [e]) (by rw [e]) (by rw [e]) (by rw [e2]) (by rw [e2])
  rw [w1] at hc
  have w2 : f_X0_worth ((X.pci n 12 k).pcj n 13 (f_X0_worth c i (c.ti 3) (c.ti 8))) n (c.ti 3) (c.ti 8) = f_X3_discounted (i_X1_principalFor c j i) (c.oi j 1) (c.ti 3 + c.oi j 2 - c.ti 3) (c.ti 8) := by
    generalize f_X0_worth c i (c.ti 3) (c.ti 8) = W1
    have e : ∀ q, q ≠ 12 → ((X.pci n 12 k).pcj n 13 W1).ci n q = X.ci n q := fun q hq => re_upk hq
    have e2 : ∀ q, q ≠ 13 → ((X.pci n 12 k).pcj n 13 W1).cj n q = X.cj n q := fun q hq => re_upk hq
    unfold f_X0_worth i_X0_isOpen
    rw [e 8 (by decide), e 6 (by decide), e 7 (by decide), e2 5 (by decide), e2 9 (by decide), x1, x2]
    show (if (if (0 : Int32) = 0 then (1 : Int32) else 0) = 0 then (0 : Int64) else f_X3_discounted (i_X1_principalFor c j i) (c.oi j 1) (c.ti 3 + c.oi j 2 - c.ti 3) (c.ti 8) + 0) = _
    rw [if_pos rfl, if_neg (by decide), Int64.add_zero]
  rw [w2] at hc
  have w3 : (((X.pci n 12 k).pcj n 13 (f_X0_worth c i (c.ti 3) (c.ti 8))).pcj n 14 (f_X3_discounted (i_X1_principalFor c j i) (c.oi j 1) (c.ti 3 + c.oi j 2 - c.ti 3) (c.ti 8))).cj i 10 = c.cj i 10 := by
    show up2 (up2 X.cj n 13 _) n 14 _ i 10 = _
    rw [re_up hin, re_up hin, xi.2.1]
  rw [w3] at hc
  rw [hc]
  generalize f_X3_discounted (i_X1_principalFor c j i) (c.oi j 1) (c.ti 3 + c.oi j 2 - c.ti 3) (c.ti 8) = W2 at *
  generalize f_X0_worth c i (c.ti 3) (c.ti 8) = W1 at *
  refine ⟨⟨xt, xj, xo⟩, fun q hq hqi => ⟨?_, ?_, ?_⟩, ?_, ?_, ?_, ?_, ?_, ?_⟩
  · show up2 (up2 X.ci n 12 k) i 8 2 q = _
    rw [re_up hqi, re_up hq]; exact (x4 q hq).1
  · show up2 (up2 (up2 (up2 X.cj n 13 W1) n 14 W2) n 10 (c.cj i 10)) i 10 0 q = _
    rw [re_up hqi, re_up hq, re_up hq, re_up hq]; exact (x4 q hq).2.1
  · exact (x4 q hq).2.2
  · show up2 (up2 X.ci n 12 k) i 8 2 n = _
    rw [re_up hni, re_ups, x1]
  · show up2 (up2 (up2 (up2 X.cj n 13 W1) n 14 W2) n 10 (c.cj i 10)) i 10 0 n = _
    rw [re_up hni, re_ups, re_ups, re_ups, x2]
  · exact x3
  · show up2 (up2 X.ci n 12 k) i 8 2 i = _
    rw [re_ups, re_up hin, xi.1]
  · show up2 (up2 (up2 (up2 X.cj n 13 W1) n 14 W2) n 10 (c.cj i 10)) i 10 0 i = _
    rw [re_ups, re_up hin, re_up hin, re_up hin, xi.2.1]
  · exact xi.2.2
theorem re_swap {n no nt t i j : Nat} {c : CC} {m : MC} (h : EQ n no nt c m) (b : BD n no nt t c) (hn : n < 40) (hi : i < n) (hj : j < no) (h8 : c.ci i 8 = 0) :
    EQ (n + 1) no nt (f_X3_swap n c i (nI i) j).2.2 (f_X4_swaps n m i j).2 ∧ BD (n + 1) no nt t (f_X3_swap n c i (nI i) j).2.2 ∧ (f_X4_swaps n m i j).2.ti 0 = m.ti 0 := by
  obtain ⟨m1, m2, m3, m4, m5, ⟨mi1, mi2, mi3, mi4⟩, mn, mn11, mn12, ⟨mn16, mn20, mn21⟩, ⟨mn10, mn17, mn18, mn19⟩, m28, m29, m30⟩ := sw_M (m := m) (j := j) hi
  obtain ⟨⟨c1, c2, c3, c4, c5⟩, c6, cn, cnj, cnp, ci, cij, cip⟩ := sw_C (c := c) (j := j) (k := nI i) hi rfl
  have er := h.er hi
  obtain ⟨a0, a1, a2, a3, a4, a5, a6, a7, a8, a9, r0, r1, r2, r3⟩ := h.er hi
  obtain ⟨o1, o2, o3⟩ := h.ofr hj
  obtain ⟨p1, p2, p3⟩ := b.of hj
  have bc := b.at hi
  have bc' := bc
  obtain ⟨b0, b1, b2, b3, b4, b5, b6, b7, b8, b9, b10, b11, b12, b13, b14⟩ := bc
  have hty := b.2.1
  have hdis := b.2.2.2.2.1
  have hg := gB_le (show ix (c.ti 3) ≤ 60 by rw [re_ix]; omega)
  have hin : i ≠ n := by omega
  obtain ⟨i15, i16, i20, j17, j18, j19⟩ := h.1.2.2.2.2.2.2.2.2.2.2.2.2.2.1 n (Nat.le_refl _) hn
  have e1 : m.ti 1 = c.ti 3 := h.1.2.2.2.1
  have e6 : m.ti 6 = c.ti 8 := h.1.2.2.2.2.2.2.2.2.1
  obtain ⟨k1, k2, k3⟩ := re_cut (m := m) er o1 b9.1 b9.2.1 (by omega) p1.1 p1.2
  obtain ⟨w1, w2, w3⟩ := re_wth (r := c.ti 8) h b hi hdis.1 hdis.2
  have ey : (c.ti 3 + c.oi j 2).toInt = (c.ti 3).toInt + (c.oi j 2).toInt := re_iadd (by omega) (by omega)
  have eB1 : (swB n m i j).ti 1 = c.ti 3 := e1
  obtain ⟨v1, v2, v3⟩ := re_vby (m := swB n m i j) (r := c.ti 8) (yr := c.ti 3) (du := c.ti 3 + c.oi j 2) k2 (by omega) p2.1 p2.2 hdis.1 hdis.2 eB1 (by omega) (by omega) hty.1 (by omega) (by omega)
  have eV : f_X4_valueOf (swB n m i j) n (m.ti 6) = f_X3_discounted (i_X1_principalFor c j i) (c.oi j 1) (c.ti 3 + c.oi j 2 - c.ti 3) (c.ti 8) := by
    have B16 : (swB n m i j).ai 16 n = 0 := by
      have : (f_X4_swaps n m i j).2.ai 16 n = (swB n m i j).ai 16 n := by rw [sw_eq]
      rw [← this, mn16, i16]
    have B11 : (swB n m i j).ai 11 n = c.oi j 1 := by
      have : (f_X4_swaps n m i j).2.ai 11 n = (swB n m i j).ai 11 n := by rw [sw_eq]
      rw [← this, mn11, o2]
    have B12 : (swB n m i j).ai 12 n = c.ti 3 + c.oi j 2 := by
      have : (f_X4_swaps n m i j).2.ai 12 n = (swB n m i j).ai 12 n := by rw [sw_eq]
      rw [← this, mn12, o3, e1]
    have B10 : (swB n m i j).aj 10 n = i_X1_principalFor c j i := by
      have : (f_X4_swaps n m i j).2.aj 10 n = (swB n m i j).aj 10 n := by rw [sw_eq]; exact congrFun (k_a2 (by decide)) _
      rw [← this, mn10, k1]
    have B17 : (swB n m i j).aj 17 n = 0 := by
      have : (f_X4_swaps n m i j).2.aj 17 n = (swB n m i j).aj 17 n := by rw [sw_eq]; exact congrFun (k_a2 (by decide)) _
      rw [← this, mn17, j17]
    unfold f_X4_valueOf
    rw [B16, if_pos rfl, B10, B11, B12, B17, e6, v1, Int64.add_zero]
  have eK : swK m i = ix (c.ci i 0) := by unfold swK; rw [a0]
  have hK : nI (ix (c.ci i 0)) = c.ci i 0 := re_nIix (by rw [re_ile]; exact b0.1)
  rw [eV] at m30
  rw [e6, w1] at m29
  rw [eK] at m28 m29 m30
  rw [k1] at mn10
  generalize (f_X4_swaps n m i j).2 = m' at *
  generalize (f_X3_swap n c i (nI i) j).2.2 = c' at *
  generalize hW2 : f_X3_discounted (i_X1_principalFor c j i) (c.oi j 1) (c.ti 3 + c.oi j 2 - c.ti 3) (c.ti 8) = W2 at *
  refine ⟨⟨h.1.add (i := i) hn (fun k _ => by rw [c1]) ?_ ?_ ?_ (by rw [c2]) ?_ (by rw [m3]) (fun q hq hqi => ⟨(c6 q hq hqi).1, (c6 q hq hqi).2.1⟩) c3 c4 c5 m4 m5 (by omega) ?_ (fun _ => ?_), ?_⟩, BG.add (i := i) b hn (fun k _ => by rw [c1]) (Or.inl (by rw [c1])) (by rw [c2]) c6 c3 c5 ?_ (fun _ => ?_), m1 0 (by decide)⟩
  · rw [m1 36 (by decide), c1]; exact h.1.2.2.2.2.2.2.2.2.2.2.2.1
  · rw [m2, h.1.1]; exact (re_cnt (by omega)).2
  · intro k _ h7 _; exact m1 k h7
  · rw [m3, c2]; exact h.1.2.2.2.2.1
  · rw [cn, cnj]
    unfold ER
    rw [mn 8 (by decide), mn 9 (by decide), mn 13 (by decide), mn 14 (by decide), mn 15 (by decide), mn11, mn12, mn16, mn20, mn21, mn10, mn17, mn18, mn19, a0, a1, a2, a3, a4, o2, e1, o3, i16, i20, j17, j19, r2]
    exact ⟨rfl, rfl, rfl, rfl, rfl, rfl, rfl, rfl, rfl, rfl, rfl, rfl, rfl, rfl⟩
  · rw [ci, cij]
    unfold ER
    rw [mi1 8 (by decide) (by decide), mi1 9 (by decide) (by decide), mi1 13 (by decide) (by decide), mi1 14 (by decide) (by decide), mi1 15 (by decide) (by decide), mi1 11 (by decide) (by decide), mi1 12 (by decide) (by decide), mi2, mi1 20 (by decide) (by decide), mi1 21 (by decide) (by decide),
      mi3 10 (by decide) (by decide), mi3 17 (by decide) (by decide), mi4, mi3 19 (by decide) (by decide)]
    exact ⟨a0, a1, a2, a3, a4, a5, a6, rfl, a8, a9, r0, r1, rfl, r3⟩
  · intro q hq
    obtain ⟨s1, s2, s3⟩ := h.2 q hq
    rw [m28, m29, m30]
    have f1 : g_X3_effortOf c' (nI q) n = g_X3_effortOf c (nI q) n := re_eff_cg fun x hx => by
      by_cases e : x = i
      · rw [e, ci, cij]; exact ⟨rfl, rfl, rfl⟩
      · rw [(c6 x (by omega) e).1, (c6 x (by omega) e).2.1]; exact ⟨rfl, rfl, rfl⟩
    have f2 : g_X3_effortOf c' (nI q) (n + 1) = if c.ci i 0 = nI q then ((g_X3_effortOf c (nI q) n).1 + f_X0_worth c i (c.ti 3) (c.ti 8), (g_X3_effortOf c (nI q) n).2 + W2) else g_X3_effortOf c (nI q) n := by
      show (if c'.ci n 0 = nI q then (((g_X3_effortOf c' (nI q) n).1) + (c'.cj n 13), ((g_X3_effortOf c' (nI q) n).2) + (c'.cj n 14)) else ((g_X3_effortOf c' (nI q) n).1, (g_X3_effortOf c' (nI q) n).2)) = _
      rw [f1, cn, cnj]; rfl
    have iq : (q = ix (c.ci i 0)) ↔ c.ci i 0 = nI q := by
      constructor
      · intro e; rw [e, hK]
      · intro e; rw [e, re_ixnI (by omega)]
    have f3 : g_X3_wasSwapped c' (nI q) (n + 1) = 0 ↔ (g_X3_wasSwapped c (nI q) n = 0 ∧ ¬ c.ci i 0 = nI q) := by
      have z : ∀ {x : CC} {N : Nat}, g_X3_wasSwapped x (nI q) N = 0 ↔ ∀ y, y < N → x.ci y 0 = nI q → ¬ x.ci y 8 = 2 := by
        intro x N
        induction N with
        | zero => exact ⟨fun _ y hy => absurd hy (Nat.not_lt_zero _), fun _ => rfl⟩
        | succ N ih =>
          show (if g_X3_wasSwapped x (nI q) N = 0 then (if x.ci N 0 = nI q then (if x.ci N 8 = 2 then (1 : Int32) else 0) else 0) else 1) = 0 ↔ _
          by_cases e : g_X3_wasSwapped x (nI q) N = 0
          · rw [if_pos e]
            have e' := ih.mp e
            by_cases e0 : x.ci N 0 = nI q
            · rw [if_pos e0]
              by_cases e8 : x.ci N 8 = 2
              · rw [if_pos e8]
                exact ⟨fun u => absurd u (by decide), fun u => absurd e8 (u N (Nat.lt_succ_self _) e0)⟩
              · rw [if_neg e8]
                refine ⟨fun _ y hy hk => ?_, fun _ => rfl⟩
                by_cases ey : y = N
                · rw [ey]; exact e8
                · exact e' y (by omega) hk
            · rw [if_neg e0]
              refine ⟨fun _ y hy hk => ?_, fun _ => rfl⟩
              by_cases ey : y = N
              · rw [ey] at hk; exact absurd hk e0
              · exact e' y (by omega) hk
          · rw [if_neg e]
            exact ⟨fun u => absurd u (by decide), fun u => absurd (ih.mpr fun y hy => u y (by omega)) e⟩
      rw [z, z]
      constructor
      · intro u
        refine ⟨fun y hy hk => ?_, fun e => ?_⟩
        · by_cases ey : y = i
          · rw [ey, h8]; decide
          · have := u y (by omega)
            rw [(c6 y (by omega) ey).1] at this
            exact this hk
        · refine u i (by omega) ?_ ?_
          · rw [ci]; exact e
          · rw [ci]; rfl
      · intro ⟨u1, u2⟩ y hy hk
        by_cases en : y = n
        · rw [en, cn] at hk
          exact absurd hk u2
        · by_cases ey : y = i
          · rw [ey, ci] at hk
            exact absurd hk u2
          · rw [(c6 y en ey).1] at hk ⊢
            exact u1 y (by omega) hk
    rw [f2]
    by_cases e : c.ci i 0 = nI q
    · rw [if_pos e, if_pos (iq.mpr e), if_pos (iq.mpr e), if_pos (iq.mpr e), s1, s2]
      refine ⟨rfl, rfl, ⟨fun u => absurd u (by decide), fun u => absurd e (f3.mp u).2⟩⟩
    · rw [if_neg e, if_neg (fun u => e (iq.mp u)), if_neg (fun u => e (iq.mp u)), if_neg (fun u => e (iq.mp u))]
      exact ⟨s1, s2, ⟨fun u => f3.mpr ⟨s3.mp u, e⟩, fun u => s3.mpr (f3.mp u).1⟩⟩
  · rw [cn, cnj, cnp]
    refine nw_bc (P := i_X1_principalFor c j i) (A := c.cj i 10) (B := f_X0_worth c i (c.ti 3) (c.ti 8)) (F := W2) (kd := c.ci i 0) (ld := c.ci i 1) (rk := c.ci i 2) (sr := c.ci i 3) (hd := c.ci i 4) (q := c.oi j 1) (d := c.ti 3 + c.oi j 2) (k := 0) b0 b1 b2 b3 b4 p2 (by rw [ey]; omega) ⟨k2, by omega⟩ b10 ⟨w2, w3⟩ ⟨v2, by omega⟩ rfl rfl rfl rfl rfl rfl rfl rfl rfl rfl rfl rfl rfl rfl rfl rfl
  · rw [ci, cij, cip]
    exact ⟨b0, b1, b2, b3, b4, b5, b6, Or.inr (Or.inr rfl), b8, b9, ⟨Int.le_refl _, by show (0 : Int64).toInt ≤ _; rw [show (0 : Int64).toInt = 0 from rfl]; omega⟩, b11, b12, b13, b14⟩
