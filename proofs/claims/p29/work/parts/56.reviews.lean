/-! THE RELATION, 19: accept, review, settle -/
theorem q_accept {n no nt t : Nat} {c : CC} {m : MC} {k o : Int32} (h : EQ n no nt c m) (b : BD n no nt t c) :
    CI [(3, 1), (2, 2)] (f_X3_accept n no c k o).1 ((f_X4_accept n no m k o).2.ti 0) (f_X4_accept n no m k o).1 ∧ EQ (f_X3_accept n no c k o).2.1 no nt (f_X3_accept n no c k o).2.2 (f_X4_accept n no m k o).2 ∧ BD (f_X3_accept n no c k o).2.1 no nt t (f_X3_accept n no c k o).2.2 := by
  have hn := b.1.1
  have hno := b.1.2.1
  obtain ⟨k1, k2⟩ := re_room hn
  obtain ⟨c1, c2⟩ := re_cnt (n := n) (by omega)
  unfold f_X3_accept f_X4_accept
  by_cases hk : inr k n
  · rw [if_pos hk, if_neg (fun e => (h.cl hn).mp e hk)]
    by_cases ho : inr o no
    · have hi := re_inl (show n ≤ 600 by omega) hk
      have hj := re_inl (show no ≤ 600 by omega) ho
      obtain ⟨a0, a1, a2, a3, a4, a5, a6, a7, a8, a9, r0, r1, r2, r3⟩ := h.er hi
      rw [if_pos ho, if_neg (fun e => (h.of hno).mp e ho), a0, a7, h.1.1]
      by_cases h0 : c.ci (ix k) 0 = 1
      · rw [if_pos h0, if_pos h0]
        exact ⟨CI.no 2 (by decide) rfl, h.p0, b⟩
      · rw [if_neg h0, if_neg h0]
        by_cases h8 : c.ci (ix k) 8 = 0
        · rw [if_neg (fun e => (re_open.mp e) h8), if_pos h8]
          by_cases g7 : n < 40
          · rw [if_pos (k1.mpr g7), if_neg (fun e => by have := k2.mp e; omega)]
            obtain ⟨E, B, T⟩ := re_swap h.p0 b g7 hi hj h8
            have ek : nI (ix k) = k := re_nIix hk.1
            rw [ek] at E B
            refine ⟨?_, E, B⟩
            show CI _ (.inl (some (.int (nI (n + 1) - 1)))) _ (m.ti 7)
            rw [c1, h.1.1]
            exact CI.ok T
          · rw [if_neg (fun e => g7 (k1.mp e)), if_pos (k2.mpr (by omega))]
            exact ⟨CI.no 2 (by decide) rfl, h.p0, b⟩
        · rw [if_pos (re_open.mpr h8), if_neg h8]
          exact ⟨CI.no 2 (by decide) rfl, h.p0, b⟩
    · rw [if_neg ho, if_pos ((h.of hno).mpr ho)]
      exact ⟨CI.no 1 (by decide) rfl, h.p0, b⟩
  · rw [if_neg hk, if_pos ((h.cl hn).mpr hk)]
    exact ⟨CI.no 1 (by decide) rfl, h.p0, b⟩
theorem q_review {n no nt t : Nat} {c : CC} {m : MC} (h : EQ n no nt c m) (b : BD n no nt t c) :
    CI [(2, 1)] (f_X3_review n c).1 ((f_X4_review n m).2.ti 0) (f_X4_review n m).1 ∧ EQ (f_X3_review n c).2.1 no nt (f_X3_review n c).2.2 (f_X4_review n m).2 ∧ BD (f_X3_review n c).2.1 no nt t (f_X3_review n c).2.2 := by
  have hn := b.1.1
  obtain ⟨k1, k2⟩ := re_room hn
  have s9 : m.ti 36 = c.ti 13 := h.1.2.2.2.2.2.2.2.2.2.2.2.1
  have s7 : m.ti 34 = c.ti 11 := h.1.2.2.2.2.2.2.2.2.2.1
  have s2 : m.tj 2 = c.tj 4 := h.1.2.2.2.2.1
  have e1 : m.ti 1 = c.ti 3 := h.1.2.2.2.1
  have hw : f_X4_failing n (m.pti 0 0) = f_X3_reasonToFail n c := re_why h.p0.1 b
  unfold f_X3_review f_X4_review
  rw [s9, h.1.1, hw]
  by_cases h0 : c.ti 13 = 0
  · rw [if_pos h0, if_pos h0]
    exact ⟨CI.no 1 (by decide) rfl, h.p0, b⟩
  · rw [if_neg h0, if_neg h0]
    by_cases g7 : n < 40
    · rw [if_pos (k1.mpr g7), if_neg (show ¬ nI n = 40 from fun e => by have := k2.mp e; omega)]
      by_cases hz : f_X3_reasonToFail n c = 0
      · rw [if_pos hz, if_pos hz]
        obtain ⟨i15, i16, i20, j17, j18, j19⟩ := h.1.2.2.2.2.2.2.2.2.2.2.2.2.2.1 n (Nat.le_refl _) g7
        have hty := b.2.1
        have b7 := b.2.2.2.2.2.2.2.1
        have ey : (c.ti 3 + 5).toInt = (c.ti 3).toInt + 5 := by
          rw [re_iadd (by rw [show (5 : Int32).toInt = 5 from rfl]; omega) (by rw [show (5 : Int32).toInt = 5 from rfl]; omega)]; rfl
        have hg : 1000000 ≤ gB (ix (c.ti 3)) := gB_mono (Nat.zero_le _)
        have eC : (f_X3_payTranche n c).2.2 = (((f_X0_setTerms (c.newc n (clI 4 7 0 (-1) 0) (fun _ => 0)) n (c.ti 11).toInt64 300 (c.ti 3 + 5)).ptj 4 (c.tj 4 + (c.ti 11).toInt64)).pti 13 (c.ti 13 - 1)) := rfl
        rw [eC]
        have x1 := nw_ci (n := n) (c := c) (kd := 4) (ld := 7) (rk := 0) (sr := -1) (hd := 0) (p := (c.ti 11).toInt64) (q := 300) (d := c.ti 3 + 5)
        have x2 := nw_cj (n := n) (c := c) (kd := 4) (ld := 7) (rk := 0) (sr := -1) (hd := 0) (p := (c.ti 11).toInt64) (q := 300) (d := c.ti 3 + 5)
        have x3 := nw_pay (n := n) (c := c) (kd := 4) (ld := 7) (rk := 0) (sr := -1) (hd := 0) (p := (c.ti 11).toInt64) (q := 300) (d := c.ti 3 + 5)
        have x4 := fun q (hq : q ≠ n) => nw_ne (n := n) (j := q) (c := c) (kd := 4) (ld := 7) (rk := 0) (sr := -1) (hd := 0) (p := (c.ti 11).toInt64) (q := 300) (d := c.ti 3 + 5) hq
        have xt : ∀ X : CC, X.ti = c.ti → ∀ k, k ≠ 13 → ((X.ptj 4 (c.tj 4 + (c.ti 11).toInt64)).pti 13 (c.ti 13 - 1)).ti k = c.ti k := fun X hX k hk => by
          show (if k = 13 then _ else X.ti k) = _
          rw [if_neg hk, hX]
        have xt := xt (f_X0_setTerms (c.newc n (clI 4 7 0 (-1) 0) (fun _ => 0)) n (c.ti 11).toInt64 300 (c.ti 3 + 5)) rfl
        have aiE : ∀ f q, (((f_X4_adds n (((m.pti 0 0).pti 36 (c.ti 13 - 1)).ptj 2 ((m.tj 2) + (((m.ti 34) : Int32).toInt64))) 4 7 (((m.ti 34) : Int32).toInt64) 300 5).2.pai 13 n 0)).ai f q = up2 (up2 (up2 (up2 (up2 (up2 (up2 m.ai 8 n 4) 9 n 7) 11 n 300) 12 n (m.ti 1 + 5)) 14 n (-1)) 21 n (-1)) 13 n 0 f q := fun _ _ => rfl
        have ajE : ∀ f q, (((f_X4_adds n (((m.pti 0 0).pti 36 (c.ti 13 - 1)).ptj 2 ((m.tj 2) + (((m.ti 34) : Int32).toInt64))) 4 7 (((m.ti 34) : Int32).toInt64) 300 5).2.pai 13 n 0)).aj f q = up2 m.aj 10 n ((m.ti 34 : Int32).toInt64) f q := fun _ _ => rfl
        have tiE : ∀ k, (((f_X4_adds n (((m.pti 0 0).pti 36 (c.ti 13 - 1)).ptj 2 ((m.tj 2) + (((m.ti 34) : Int32).toInt64))) 4 7 (((m.ti 34) : Int32).toInt64) 300 5).2.pai 13 n 0)).ti k = if k = 7 then m.ti 7 + 1 else (if k = 36 then c.ti 13 - 1 else (if k = 0 then 0 else m.ti k)) := fun _ => rfl
        have t2 : (((f_X4_adds n (((m.pti 0 0).pti 36 (c.ti 13 - 1)).ptj 2 ((m.tj 2) + (((m.ti 34) : Int32).toInt64))) 4 7 (((m.ti 34) : Int32).toInt64) 300 5).2.pai 13 n 0)).tj 2 = m.tj 2 + (m.ti 34).toInt64 := rfl
        have t3 : (((f_X4_adds n (((m.pti 0 0).pti 36 (c.ti 13 - 1)).ptj 2 ((m.tj 2) + (((m.ti 34) : Int32).toInt64))) 4 7 (((m.ti 34) : Int32).toInt64) 300 5).2.pai 13 n 0)).tj 3 = m.tj 3 := rfl
        generalize ((f_X4_adds n (((m.pti 0 0).pti 36 (c.ti 13 - 1)).ptj 2 ((m.tj 2) + (((m.ti 34) : Int32).toInt64))) 4 7 (((m.ti 34) : Int32).toInt64) 300 5).2.pai 13 n 0) = m' at *
        refine ⟨CI.ok ((tiE 0).trans rfl), ⟨h.1.add (i := n) g7 xt ((tiE 36).trans rfl) ?_ ?_ rfl ?_ t3 (fun j hj _ => ⟨(x4 j hj).1, (x4 j hj).2.1⟩) rfl rfl rfl ?_ ?_ (Nat.le_refl _) ?_ (fun e => absurd e (Nat.lt_irrefl _)), h.2.add (fun j hj => ⟨(x4 j hj).1, (x4 j hj).2.1⟩) ?_ ?_ ?_ ?_ ?_ ?_⟩, BG.add (i := n) b g7 xt (Or.inr h0) rfl (fun j hj _ => x4 j hj) rfl rfl ?_ (fun e => absurd e (Nat.lt_irrefl _))⟩
        · rw [tiE, if_pos rfl, h.1.1]; exact (re_cnt (by omega)).2
        · intro k k0 k7 k36
          rw [tiE, if_neg k7, if_neg k36, if_neg k0]
        · rw [t2, s2, s7]; rfl
        · intro f j hf h28
          rw [aiE, re_up (by omega), re_up (by omega), re_up (by omega), re_up (by omega), re_up (by omega), re_up (by omega), re_up (by omega)]
        · intro f j hf hj _
          rw [aiE, ajE, re_upk hj, re_upk hj, re_upk hj, re_upk hj, re_upk hj, re_upk hj, re_upk hj, re_upk hj]
          exact ⟨rfl, rfl⟩
        · show ER ((f_X0_setTerms (c.newc n (clI 4 7 0 (-1) 0) (fun _ => 0)) n (c.ti 11).toInt64 300 (c.ti 3 + 5)).ci n) ((f_X0_setTerms (c.newc n (clI 4 7 0 (-1) 0) (fun _ => 0)) n (c.ti 11).toInt64 300 (c.ti 3 + 5)).cj n) m' n
          rw [x1, x2]
          unfold ER
          rw [aiE 8, aiE 9, aiE 13, aiE 14, aiE 15, aiE 11, aiE 12, aiE 16, aiE 20, aiE 21, ajE 10, ajE 17, ajE 18, ajE 19]
          refine ⟨?_, ?_, ?_, ?_, ?_, ?_, ?_, ?_, ?_, ?_, ?_, ?_, ?_, ?_⟩
          · rw [re_up (by decide), re_up (by decide), re_up (by decide), re_up (by decide), re_up (by decide), re_up (by decide), re_up1]; rfl
          · rw [re_up (by decide), re_up (by decide), re_up (by decide), re_up (by decide), re_up (by decide), re_up1]; rfl
          · rw [re_up1]; rfl
          · rw [re_up (by decide), re_up (by decide), re_up1]; rfl
          · rw [re_up (by decide), re_up (by decide), re_up (by decide), re_up (by decide), re_up (by decide), re_up (by decide), re_up (by decide), i15]; rfl
          · rw [re_up (by decide), re_up (by decide), re_up (by decide), re_up (by decide), re_up1]; rfl
          · rw [re_up (by decide), re_up (by decide), re_up (by decide), re_up1, e1]; rfl
          · rw [re_up (by decide), re_up (by decide), re_up (by decide), re_up (by decide), re_up (by decide), re_up (by decide), re_up (by decide), i16]; rfl
          · rw [re_up (by decide), re_up (by decide), re_up (by decide), re_up (by decide), re_up (by decide), re_up (by decide), re_up (by decide), i20]; rfl
          · rw [re_up (by decide), re_up1]; rfl
          · rw [re_up1, s7]; rfl
          · rw [re_up (by decide), j17]; rfl
          · rw [re_up (by decide), j18]; rfl
          · rw [re_up (by decide), j19]; rfl
        · show (f_X0_setTerms (c.newc n (clI 4 7 0 (-1) 0) (fun _ => 0)) n (c.ti 11).toInt64 300 (c.ti 3 + 5)).cj n 13 = 0
          rw [x2]; rfl
        · show (f_X0_setTerms (c.newc n (clI 4 7 0 (-1) 0) (fun _ => 0)) n (c.ti 11).toInt64 300 (c.ti 3 + 5)).cj n 14 = 0
          rw [x2]; rfl
        · show ¬ (f_X0_setTerms (c.newc n (clI 4 7 0 (-1) 0) (fun _ => 0)) n (c.ti 11).toInt64 300 (c.ti 3 + 5)).ci n 8 = 2
          rw [x1]; show ¬ (0 : Int32) = 2; decide
        · funext q
          rw [aiE, re_up (by decide), re_up (by decide), re_up (by decide), re_up (by decide), re_up (by decide), re_up (by decide), re_up (by decide)]
        · funext q
          rw [ajE, re_up (by decide)]
        · funext q
          rw [ajE, re_up (by decide)]
        · show BC _ _ _ _ ((f_X0_setTerms (c.newc n (clI 4 7 0 (-1) 0) (fun _ => 0)) n (c.ti 11).toInt64 300 (c.ti 3 + 5)).ci n) ((f_X0_setTerms (c.newc n (clI 4 7 0 (-1) 0) (fun _ => 0)) n (c.ti 11).toInt64 300 (c.ti 3 + 5)).cj n) ((f_X0_setTerms (c.newc n (clI 4 7 0 (-1) 0) (fun _ => 0)) n (c.ti 11).toInt64 300 (c.ti 3 + 5)).pay n)
          rw [x1, x2, x3]
          refine nw_bc (P := (c.ti 11).toInt64) (A := 0) (B := 0) (F := 0) (kd := 4) (ld := 7) (rk := 0) (sr := -1) (hd := 0) (q := 300) (d := c.ti 3 + 5) (k := 0) (by decide) (by decide) (by decide) (by decide) (Or.inl rfl) (by decide) (by rw [ey]; omega) (by rw [re_w]; omega) ⟨Int.le_refl _, by rw [show (0 : Int64).toInt = 0 from rfl]; omega⟩ (by decide) (by decide) rfl rfl rfl rfl rfl rfl rfl rfl rfl rfl rfl rfl rfl rfl rfl rfl
      · rw [if_neg hz, if_neg hz]
        refine ⟨?_, h.p0, b⟩
        generalize f_X3_reasonToFail n c = z
        exact CI.ok rfl
    · rw [if_neg (fun e => g7 (k1.mp e)), if_pos (k2.mpr (by omega))]
      exact ⟨CI.no 1 (by decide) rfl, h.p0, b⟩
