/-! THE PROGRAM, 8: the calls that add nothing -/
theorem rng_0 {x m : Int32} (h : rng x 1 m) : 0 ≤ x := Int32.le_trans (by decide) h.1
theorem ixz {x m : Int32} (h : rng x 1 m) : x ≤ nI (ix x) := by
  rw [ix_nI (rng_0 h)]
  exact Int32.le_refl _
theorem ixm {x m : Int32} {k : Nat} (h : rng x 1 m) (hk : k < ix x) : ¬ x ≤ nI k := by
  intro c
  rw [← ix_nI (rng_0 h)] at c
  exact nI_ge hk ix_lt c
theorem ne_toInt {x y : Int32} (h : ¬ x = y) : x.toInt ≠ y.toInt := fun e => h (Int32.toInt_inj.mp e)
theorem sw4 {x : Int32} (h : ¬ x = 0 ∧ ¬ x = 1 ∧ ¬ x = 2 ∧ ¬ x = 3 ∧ ¬ x = 4) : x.toInt < 0 ∨ 4 < x.toInt := by
  obtain ⟨t0, t1, t2, t3, t4⟩ := h
  have e0 : x.toInt ≠ 0 := ne_toInt t0
  have e1 : x.toInt ≠ 1 := ne_toInt t1
  have e2 : x.toInt ≠ 2 := ne_toInt t2
  have e3 : x.toInt ≠ 3 := ne_toInt t3
  have e4 : x.toInt ≠ 4 := ne_toInt t4
  omega
theorem sw7 {x : Int32} (h : ¬ x = 0 ∧ ¬ x = 1 ∧ ¬ x = 2 ∧ ¬ x = 3 ∧ ¬ x = 4 ∧ ¬ x = 5 ∧ ¬ x = 6 ∧ ¬ x = 7) : x.toInt < 0 ∨ 7 < x.toInt := by
  obtain ⟨t0, t1, t2, t3, t4, t5, t6, t7⟩ := h
  have e0 : x.toInt ≠ 0 := ne_toInt t0
  have e1 : x.toInt ≠ 1 := ne_toInt t1
  have e2 : x.toInt ≠ 2 := ne_toInt t2
  have e3 : x.toInt ≠ 3 := ne_toInt t3
  have e4 : x.toInt ≠ 4 := ne_toInt t4
  have e5 : x.toInt ≠ 5 := ne_toInt t5
  have e6 : x.toInt ≠ 6 := ne_toInt t6
  have e7 : x.toInt ≠ 7 := ne_toInt t7
  omega
def f_X1_tell (c : CC) (j : Nat) (k z : Int32) : CC := if z = 0 then (c.poj j 3 ((c.oj j 3) &&& ((1 <<< ((k : Int32).toInt64 &&& 63)) ^^^ (-1)))) else (c.poj j 3 ((c.oj j 3) ||| (1 <<< ((k : Int32).toInt64 &&& 63))))
set_option maxHeartbeats 4000000 in
theorem m_X1_tell {tm : Nat × Nat} {S : Sto} {w : CAd} {c : CC} {j : Nat} {k z : Int32} (hW : CW tm S w c) (hj : j < w.no) : Ev tm M_X1_tell [.ref (w.oa j), .int k, .int z] S (PV tm w S (f_X1_tell c j k z)) := by
  have hF : FrC S S := FrC.rf
  refine ev_in ok_X1_tell (Nat.le_of_ble_eq_true rfl) ?_
  refine s_aloadn dX1_tell_0 rfl rfl ?_
  refine s_iloadn dX1_tell_1 rfl rfl ?_
  refine s_ifeq (tgt := 16) dX1_tell_2 (by decide) (fun c_2 => ?_) (fun c_2 => ?_)
  · skip
    refine s_aloadn dX1_tell_16 rfl rfl ?_
    refine s_get (v := .long (c.oj j 3)) (n := 56) dX1_tell_17 rfl (hW.oK hj) (congrArg Value.long (congrFun (hW.oj _ hj) 3)) ?_
    refine s_lconst (v := 1) dX1_tell_20 (by decide) ?_
    refine s_iloadn dX1_tell_21 rfl rfl ?_
    refine s_lshl dX1_tell_22 ?_
    refine s_ldc2 (v := (-1)) dX1_tell_23 csl_RX1_37 ?_
    refine s_lxor dX1_tell_26 ?_
    refine s_land dX1_tell_27 ?_
    refine s_putJ (n := 56) dX1_tell_28 rfl (hW.oK hj) (Or.inl rfl) (fun _ _ _ => rfl) rfl rfl ?_
    have hW1 := hW.poj hj (k := 3) (v := (c.oj j 3) &&& ((1 <<< ((k : Int32).toInt64 &&& 63)) ^^^ (-1)))
    have hF1 := hF.uJ (k := 3) (v := (c.oj j 3) &&& ((1 <<< ((k : Int32).toInt64 &&& 63)) ^^^ (-1))) (hW.oK hj) (kd := 2) (by decide)
    exact s_retv dX1_tell_31 rfl (PV.of (F := f_X1_tell c j k z) (by unfold f_X1_tell; rw [if_pos c_2]) hW1 hF1)
  · skip
    refine s_aloadn dX1_tell_5 rfl rfl ?_
    refine s_get (v := .long (c.oj j 3)) (n := 56) dX1_tell_6 rfl (hW.oK hj) (congrArg Value.long (congrFun (hW.oj _ hj) 3)) ?_
    refine s_lconst (v := 1) dX1_tell_9 (by decide) ?_
    refine s_iloadn dX1_tell_10 rfl rfl ?_
    refine s_lshl dX1_tell_11 ?_
    refine s_lor dX1_tell_12 ?_
    refine s_goto (tgt := 28) dX1_tell_13 (by decide) ?_
    refine s_putJ (n := 56) dX1_tell_28 rfl (hW.oK hj) (Or.inl rfl) (fun _ _ _ => rfl) rfl rfl ?_
    have hW2 := hW.poj hj (k := 3) (v := (c.oj j 3) ||| (1 <<< ((k : Int32).toInt64 &&& 63)))
    have hF2 := hF.uJ (k := 3) (v := (c.oj j 3) ||| (1 <<< ((k : Int32).toInt64 &&& 63))) (hW.oK hj) (kd := 2) (by decide)
    exact s_retv dX1_tell_31 rfl (PV.of (F := f_X1_tell c j k z) (by unfold f_X1_tell; rw [if_neg c_2]) hW2 hF2)
def f_X1_forgetVotes (c : CC) (j : Nat) : CC := (c.poj j 3 0)
set_option maxHeartbeats 4000000 in
theorem m_X1_forgetVotes {tm : Nat × Nat} {S : Sto} {w : CAd} {c : CC} {j : Nat} (hW : CW tm S w c) (hj : j < w.no) : Ev tm M_X1_forgetVotes [.ref (w.oa j)] S (PV tm w S (f_X1_forgetVotes c j)) := by
  have hF : FrC S S := FrC.rf
  refine ev_in ok_X1_forgetVotes (Nat.le_of_ble_eq_true rfl) ?_
  refine s_aloadn dX1_forgetVotes_0 rfl rfl ?_
  refine s_lconst (v := 0) dX1_forgetVotes_1 (by decide) ?_
  refine s_putJ (n := 56) dX1_forgetVotes_2 rfl (hW.oK hj) (Or.inl rfl) (fun _ _ _ => rfl) rfl rfl ?_
  have hW1 := hW.poj hj (k := 3) (v := 0)
  have hF1 := hF.uJ (k := 3) (v := 0) (hW.oK hj) (kd := 2) (by decide)
  exact s_retv dX1_forgetVotes_5 rfl (PV.of (F := f_X1_forgetVotes c j) (by unfold f_X1_forgetVotes; rfl) hW1 hF1)
def f_X3_pledge (n : Nat) (c : CC) (k x : Int32) : Out × CC := if inr k n then (if rng x 1 1000000 then (if (i_X0_isOpen c (ix k)) = 0 then (.inr 2, c) else (if ((x : Int32).toInt64) ≤ (c.tj 4) then (.inl (some (.long ((c.cj (ix k) 10) + ((x : Int32).toInt64)))), ((c.ptj 4 ((c.tj 4) - ((x : Int32).toInt64))).pcj (ix k) 10 ((c.cj (ix k) 10) + ((x : Int32).toInt64)))) else (.inr 2, c))) else (.inr 1, c)) else (.inr 3, c)
set_option maxHeartbeats 4000000 in
theorem m_X3_pledge {tm : Nat × Nat} {S : Sto} {w : CAd} {c : CC} {k x : Int32} (hW : CW tm S w c)  : Ev tm M_X3_pledge [.ref w.th, .int k, .int x] S (PO tm w S (f_X3_pledge w.n c k x)) := by
  have hF : FrC S S := FrC.rf
  refine ev_in ok_X3_pledge (Nat.le_of_ble_eq_true rfl) ?_
  have hn40 := hW.n40
  refine s_aloadn dX3_pledge_0 rfl rfl ?_
  refine s_iloadn dX3_pledge_1 rfl rfl ?_
  by_cases r_2 : inr k w.n
  · refine s_cv1R (n := 12) dX3_pledge_2 rfl (kv hW.th (by decide) rfl) rfl (by decide) (by decide) (by decide) (by decide) (Nat.le_of_ble_eq_true rfl) (m_claimAt_ok hW r_2) ?_
    refine s_astoren dX3_pledge_5 rfl (by decide) ?_
    refine s_iloadn dX3_pledge_6 rfl rfl ?_
    refine s_iconst (v := 1) dX3_pledge_7 (by decide) ?_
    refine s_ldc (v := 1000000) dX3_pledge_8 cst_RX3_63 ?_
    by_cases r_10 : rng x 1 1000000
    · refine s_cs3V (n := 11) dX3_pledge_10 rfl rfl (by decide) (by decide) (by decide) (by decide) (Nat.le_of_ble_eq_true rfl) (m_needRange_ok r_10) ?_
      refine s_aloadn dX3_pledge_13 rfl rfl ?_
      refine s_cv0R (n := 13) dX3_pledge_14 rfl (kv (hW.cK _ (Nat.lt_of_lt_of_le (inr_lt r_2 hW.n40) hW.nm)) (by decide) rfl) rfl (by decide) (by decide) (by decide) (by decide) (Nat.le_of_ble_eq_true rfl) (mi_X0_isOpen hW (Nat.lt_of_lt_of_le (inr_lt r_2 hW.n40) hW.nm)) ?_
      refine s_ifeq (tgt := 30) dX3_pledge_17 (by decide) (fun c_17 => ?_) (fun c_17 => ?_)
      · skip
        exact s_thr (x := 2) ⟨rfl, rfl, by decide, by decide, 93, 97, 95, _, by decide, List.mem_of_getElem? (i := 3) rfl, dX3_pledge_30, dX3_pledge_33, Or.inl ⟨dX3_pledge_34, dX3_pledge_36, dX3_pledge_39⟩⟩ (by decide) (by decide) (by decide) (PO.of (F := f_X3_pledge w.n c k x) (x := .inr 2) (by unfold f_X3_pledge; rw [if_pos r_2, if_pos r_10, if_pos c_17]) hW hF)
      · skip
        refine s_aloadn dX3_pledge_20 rfl rfl ?_
        refine s_get (v := .long (c.tj 4)) (n := 8) dX3_pledge_21 rfl hW.th (congrArg Value.long (congrFun hW.tj 4)) ?_
        refine s_iloadn dX3_pledge_24 rfl rfl ?_
        refine s_i2l dX3_pledge_25 ?_
        refine s_lcge (tgt := 40) dX3_pledge_26 dX3_pledge_27 (by decide) (fun c_26 => ?_) (fun c_26 => ?_)
        · skip
          refine s_aloadn dX3_pledge_40 rfl rfl ?_
          refine s_dup dX3_pledge_41 rfl ?_
          refine s_get (v := .long (c.tj 4)) (n := 8) dX3_pledge_42 rfl hW.th (congrArg Value.long (congrFun hW.tj 4)) ?_
          refine s_iloadn dX3_pledge_45 rfl rfl ?_
          refine s_i2l dX3_pledge_46 ?_
          refine s_lsub dX3_pledge_47 ?_
          refine s_putJ (n := 8) dX3_pledge_48 rfl hW.th (Or.inl rfl) (fun _ _ _ => rfl) rfl rfl ?_
          have hW1 := hW.ptj (k := 4) (v := (c.tj 4) - ((x : Int32).toInt64))
          have hF1 := hF.uJ (k := 4) (v := (c.tj 4) - ((x : Int32).toInt64)) hW.th (kd := 4) (by decide)
          refine s_aloadn dX3_pledge_51 rfl rfl ?_
          refine s_dup dX3_pledge_52 rfl ?_
          refine s_get (v := .long (c.cj (ix k) 10)) (n := 38) dX3_pledge_53 rfl (hW1.cK _ (Nat.lt_of_lt_of_le (inr_lt r_2 hW.n40) hW.nm)) (congrArg Value.long (congrFun (hW1.cj _ (Nat.lt_of_lt_of_le (inr_lt r_2 hW.n40) hW.nm)) 10)) ?_
          refine s_iloadn dX3_pledge_56 rfl rfl ?_
          refine s_i2l dX3_pledge_57 ?_
          refine s_ladd dX3_pledge_58 ?_
          refine s_putJ (n := 38) dX3_pledge_59 rfl (hW1.cK _ (Nat.lt_of_lt_of_le (inr_lt r_2 hW.n40) hW.nm)) (Or.inl rfl) (fun _ _ _ => rfl) rfl rfl ?_
          have hW2 := hW1.pcj (Nat.lt_of_lt_of_le (inr_lt r_2 hW.n40) hW.nm) (k := 10) (v := (c.cj (ix k) 10) + ((x : Int32).toInt64))
          have hF2 := hF1.uJ (k := 10) (v := (c.cj (ix k) 10) + ((x : Int32).toInt64)) (hW1.cK _ (Nat.lt_of_lt_of_le (inr_lt r_2 hW.n40) hW.nm)) (kd := 1) (by decide)
          refine s_aloadn dX3_pledge_62 rfl rfl ?_
          refine s_get (v := .long ((c.cj (ix k) 10) + ((x : Int32).toInt64))) (n := 38) dX3_pledge_63 rfl (hW2.cK _ (Nat.lt_of_lt_of_le (inr_lt r_2 hW.n40) hW.nm)) (congrArg Value.long ((congrFun (hW2.cj _ (Nat.lt_of_lt_of_le (inr_lt r_2 hW.n40) hW.nm)) 10).trans (up2_self))) ?_
          exact s_retl dX3_pledge_66 rfl (PO.of (F := f_X3_pledge w.n c k x) (by unfold f_X3_pledge; rw [if_pos r_2, if_pos r_10, if_neg c_17, if_pos c_26]) hW2 hF2)
        · skip
          exact s_thr (x := 2) ⟨rfl, rfl, by decide, by decide, 93, 97, 95, _, by decide, List.mem_of_getElem? (i := 3) rfl, dX3_pledge_30, dX3_pledge_33, Or.inl ⟨dX3_pledge_34, dX3_pledge_36, dX3_pledge_39⟩⟩ (by decide) (by decide) (by decide) (PO.of (F := f_X3_pledge w.n c k x) (x := .inr 2) (by unfold f_X3_pledge; rw [if_pos r_2, if_pos r_10, if_neg c_17, if_neg c_26]) hW hF)
    · exact s_cs3T (n := 11) dX3_pledge_10 rfl rfl (by decide) (by decide) (by decide) (by decide) (Nat.le_of_ble_eq_true rfl) (m_needRange_no r_10) rfl (PO.of (F := f_X3_pledge w.n c k x) (x := .inr 1) (by unfold f_X3_pledge; rw [if_pos r_2, if_neg r_10]) hW hF)
  · exact s_cv1T (n := 12) dX3_pledge_2 rfl (kv hW.th (by decide) rfl) rfl (by decide) (by decide) (by decide) (by decide) (Nat.le_of_ble_eq_true rfl) (m_claimAt_no hW r_2) rfl (PO.of (F := f_X3_pledge w.n c k x) (x := .inr 3) (by unfold f_X3_pledge; rw [if_neg r_2]) hW hF)
def f_X3_reveal (n : Nat) (c : CC) (k : Int32) : Out × CC := if inr k n then (if (c.ci (ix k) 4) = 0 then (.inr 2, c) else (.inl (some (.long (f_X3_debt n (c.pci (ix k) 4 0)))), (c.pci (ix k) 4 0))) else (.inr 3, c)
set_option maxHeartbeats 4000000 in
theorem m_X3_reveal {tm : Nat × Nat} {S : Sto} {w : CAd} {c : CC} {k : Int32} (hW : CW tm S w c)  : Ev tm M_X3_reveal [.ref w.th, .int k] S (PO tm w S (f_X3_reveal w.n c k)) := by
  have hF : FrC S S := FrC.rf
  refine ev_in ok_X3_reveal (Nat.le_of_ble_eq_true rfl) ?_
  have hn40 := hW.n40
  refine s_aloadn dX3_reveal_0 rfl rfl ?_
  refine s_iloadn dX3_reveal_1 rfl rfl ?_
  by_cases r_2 : inr k w.n
  · refine s_cv1R (n := 12) dX3_reveal_2 rfl (kv hW.th (by decide) rfl) rfl (by decide) (by decide) (by decide) (by decide) (Nat.le_of_ble_eq_true rfl) (m_claimAt_ok hW r_2) ?_
    refine s_astoren dX3_reveal_5 rfl (by decide) ?_
    refine s_aloadn dX3_reveal_6 rfl rfl ?_
    refine s_get (v := .int (c.ci (ix k) 4)) (n := 27) dX3_reveal_7 rfl (hW.cK _ (Nat.lt_of_lt_of_le (inr_lt r_2 hW.n40) hW.nm)) (congrArg Value.int (congrFun (hW.ci _ (Nat.lt_of_lt_of_le (inr_lt r_2 hW.n40) hW.nm)) 4)) ?_
    refine s_ifne (tgt := 23) dX3_reveal_10 (by decide) (fun c_10 => ?_) (fun c_10 => ?_)
    · skip
      refine s_aloadn dX3_reveal_23 rfl rfl ?_
      refine s_iconst (v := 0) dX3_reveal_24 (by decide) ?_
      refine s_putI (n := 27) dX3_reveal_25 rfl (hW.cK _ (Nat.lt_of_lt_of_le (inr_lt r_2 hW.n40) hW.nm)) (Or.inl rfl) (fun _ _ _ => rfl) (nr_bool (by decide)) (ft_bool (by decide)) ?_
      have hW1 := hW.pci (Nat.lt_of_lt_of_le (inr_lt r_2 hW.n40) hW.nm) (fun e => absurd e (by decide)) (fun _ => (by decide)) (k := 4) (v := 0)
      have hF1 := hF.uI (k := 4) (v := 0) (hW.cK _ (Nat.lt_of_lt_of_le (inr_lt r_2 hW.n40) hW.nm)) (kd := 1) (by decide)
      refine s_aloadn dX3_reveal_28 rfl rfl ?_
      refine s_cv0R (n := 16) dX3_reveal_29 rfl (kv hW1.th (by decide) rfl) rfl (by decide) (by decide) (by decide) (by decide) (Nat.le_of_ble_eq_true rfl) (m_X3_debt hW1 ) ?_
      exact s_retl dX3_reveal_32 rfl (PO.of (F := f_X3_reveal w.n c k) (by unfold f_X3_reveal; rw [if_pos r_2, if_neg c_10]) hW1 hF1)
    · skip
      exact s_thr (x := 2) ⟨rfl, rfl, by decide, by decide, 93, 97, 107, _, by decide, List.mem_of_getElem? (i := 4) rfl, dX3_reveal_13, dX3_reveal_16, Or.inl ⟨dX3_reveal_17, dX3_reveal_19, dX3_reveal_22⟩⟩ (by decide) (by decide) (by decide) (PO.of (F := f_X3_reveal w.n c k) (x := .inr 2) (by unfold f_X3_reveal; rw [if_pos r_2, if_pos c_10]) hW hF)
  · exact s_cv1T (n := 12) dX3_reveal_2 rfl (kv hW.th (by decide) rfl) rfl (by decide) (by decide) (by decide) (by decide) (Nat.le_of_ble_eq_true rfl) (m_claimAt_no hW r_2) rfl (PO.of (F := f_X3_reveal w.n c k) (x := .inr 3) (by unfold f_X3_reveal; rw [if_neg r_2]) hW hF)
def f_X3_economy (c : CC) (g b x : Int32) : Out × CC := if rng g (-1000) 1000 then (if rng b (-200) 200 then (if rng x 0 10000000 then (.inl (some (.long ((c.tj 4) + ((x : Int32).toInt64)))), (((c.pti 6 g).pti 7 b).ptj 4 ((c.tj 4) + ((x : Int32).toInt64)))) else (.inr 1, c)) else (.inr 1, c)) else (.inr 1, c)
set_option maxHeartbeats 4000000 in
theorem m_X3_economy {tm : Nat × Nat} {S : Sto} {w : CAd} {c : CC} {g b x : Int32} (hW : CW tm S w c)  : Ev tm M_X3_economy [.ref w.th, .int g, .int b, .int x] S (PO tm w S (f_X3_economy c g b x)) := by
  have hF : FrC S S := FrC.rf
  refine ev_in ok_X3_economy (Nat.le_of_ble_eq_true rfl) ?_
  have hn40 := hW.n40
  refine s_iloadn dX3_economy_0 rfl rfl ?_
  refine s_sipush (v := (-1000)) dX3_economy_1 (by decide) ?_
  refine s_sipush (v := 1000) dX3_economy_4 (by decide) ?_
  by_cases r_7 : rng g (-1000) 1000
  · refine s_cs3V (n := 11) dX3_economy_7 rfl rfl (by decide) (by decide) (by decide) (by decide) (Nat.le_of_ble_eq_true rfl) (m_needRange_ok r_7) ?_
    refine s_iloadn dX3_economy_10 rfl rfl ?_
    refine s_sipush (v := (-200)) dX3_economy_11 (by decide) ?_
    refine s_sipush (v := 200) dX3_economy_14 (by decide) ?_
    by_cases r_17 : rng b (-200) 200
    · refine s_cs3V (n := 11) dX3_economy_17 rfl rfl (by decide) (by decide) (by decide) (by decide) (Nat.le_of_ble_eq_true rfl) (m_needRange_ok r_17) ?_
      refine s_iloadn dX3_economy_20 rfl rfl ?_
      refine s_iconst (v := 0) dX3_economy_21 (by decide) ?_
      refine s_ldc (v := 10000000) dX3_economy_22 cst_RX3_113 ?_
      by_cases r_24 : rng x 0 10000000
      · refine s_cs3V (n := 11) dX3_economy_24 rfl rfl (by decide) (by decide) (by decide) (by decide) (Nat.le_of_ble_eq_true rfl) (m_needRange_ok r_24) ?_
        refine s_aloadn dX3_economy_27 rfl rfl ?_
        refine s_iloadn dX3_economy_28 rfl rfl ?_
        refine s_putI (n := 10) dX3_economy_29 rfl hW.th (Or.inl rfl) (fun _ _ _ => rfl) rfl rfl ?_
        have hW1 := hW.pti (k := 6) (v := g)
        have hF1 := hF.uI (k := 6) (v := g) hW.th (kd := 4) (by decide)
        refine s_aloadn dX3_economy_32 rfl rfl ?_
        refine s_iloadn dX3_economy_33 rfl rfl ?_
        refine s_putI (n := 11) dX3_economy_34 rfl hW1.th (Or.inl rfl) (fun _ _ _ => rfl) rfl rfl ?_
        have hW2 := hW1.pti (k := 7) (v := b)
        have hF2 := hF1.uI (k := 7) (v := b) hW1.th (kd := 4) (by decide)
        refine s_aloadn dX3_economy_37 rfl rfl ?_
        refine s_dup dX3_economy_38 rfl ?_
        refine s_get (v := .long (c.tj 4)) (n := 8) dX3_economy_39 rfl hW2.th (congrArg Value.long (congrFun hW2.tj 4)) ?_
        refine s_iloadn dX3_economy_42 rfl rfl ?_
        refine s_i2l dX3_economy_43 ?_
        refine s_ladd dX3_economy_44 ?_
        refine s_putJ (n := 8) dX3_economy_45 rfl hW2.th (Or.inl rfl) (fun _ _ _ => rfl) rfl rfl ?_
        have hW3 := hW2.ptj (k := 4) (v := (c.tj 4) + ((x : Int32).toInt64))
        have hF3 := hF2.uJ (k := 4) (v := (c.tj 4) + ((x : Int32).toInt64)) hW2.th (kd := 4) (by decide)
        refine s_aloadn dX3_economy_48 rfl rfl ?_
        refine s_get (v := .long ((c.tj 4) + ((x : Int32).toInt64))) (n := 8) dX3_economy_49 rfl hW3.th (congrArg Value.long (congrFun hW3.tj 4)) ?_
        exact s_retl dX3_economy_52 rfl (PO.of (F := f_X3_economy c g b x) (by unfold f_X3_economy; rw [if_pos r_7, if_pos r_17, if_pos r_24]) hW3 hF3)
      · exact s_cs3T (n := 11) dX3_economy_24 rfl rfl (by decide) (by decide) (by decide) (by decide) (Nat.le_of_ble_eq_true rfl) (m_needRange_no r_24) rfl (PO.of (F := f_X3_economy c g b x) (x := .inr 1) (by unfold f_X3_economy; rw [if_pos r_7, if_pos r_17, if_neg r_24]) hW hF)
    · exact s_cs3T (n := 11) dX3_economy_17 rfl rfl (by decide) (by decide) (by decide) (by decide) (Nat.le_of_ble_eq_true rfl) (m_needRange_no r_17) rfl (PO.of (F := f_X3_economy c g b x) (x := .inr 1) (by unfold f_X3_economy; rw [if_pos r_7, if_neg r_17]) hW hF)
  · exact s_cs3T (n := 11) dX3_economy_7 rfl rfl (by decide) (by decide) (by decide) (by decide) (Nat.le_of_ble_eq_true rfl) (m_needRange_no r_7) rfl (PO.of (F := f_X3_economy c g b x) (x := .inr 1) (by unfold f_X3_economy; rw [if_neg r_7]) hW hF)
def f_X3_moratorium (c : CC) (k z : Int32) : Out × CC := if inr k 5 then (if (f_X3_withBit (c.ti 9) k z) = (c.ti 9) then (.inl (some (.int 0)), (c.pti 9 (f_X3_withBit (c.ti 9) k z))) else (.inl (some (.int 1)), (c.pti 9 (f_X3_withBit (c.ti 9) k z)))) else (.inr 3, c)
set_option maxHeartbeats 4000000 in
theorem m_X3_moratorium {tm : Nat × Nat} {S : Sto} {w : CAd} {c : CC} {k z : Int32} (hW : CW tm S w c) (hz : z = 0 ∨ z = 1) : Ev tm M_X3_moratorium [.ref w.th, .int k, .int z] S (PO tm w S (f_X3_moratorium c k z)) := by
  have hF : FrC S S := FrC.rf
  refine ev_in ok_X3_moratorium (Nat.le_of_ble_eq_true rfl) ?_
  have hn40 := hW.n40
  refine s_iloadn dX3_moratorium_0 rfl rfl ?_
  by_cases r_1 : inr k 5
  · refine s_cs1V (n := 14) dX3_moratorium_1 rfl rfl (by decide) (by decide) (by decide) (by decide) (Nat.le_of_ble_eq_true rfl) (m_needKind_ok r_1) ?_
    refine s_aloadn dX3_moratorium_4 rfl rfl ?_
    refine s_get (v := .int (c.ti 9)) (n := 13) dX3_moratorium_5 rfl hW.th (congrArg Value.int (congrFun hW.ti 9)) ?_
    refine s_istoren dX3_moratorium_8 rfl (by decide) ?_
    refine s_aloadn dX3_moratorium_9 rfl rfl ?_
    refine s_iloadn dX3_moratorium_10 rfl rfl ?_
    refine s_iloadn dX3_moratorium_11 rfl rfl ?_
    refine s_iloadn dX3_moratorium_12 rfl rfl ?_
    refine s_cs3R (n := 15) dX3_moratorium_13 rfl rfl (by decide) (by decide) (by decide) (by decide) (Nat.le_of_ble_eq_true rfl) (m_X3_withBit) ?_
    refine s_putI (n := 13) dX3_moratorium_16 rfl hW.th (Or.inl rfl) (fun _ _ _ => rfl) rfl rfl ?_
    have hW1 := hW.pti (k := 9) (v := (f_X3_withBit (c.ti 9) k z))
    have hF1 := hF.uI (k := 9) (v := (f_X3_withBit (c.ti 9) k z)) hW.th (kd := 4) (by decide)
    refine s_aloadn dX3_moratorium_19 rfl rfl ?_
    refine s_get (v := .int (f_X3_withBit (c.ti 9) k z)) (n := 13) dX3_moratorium_20 rfl hW1.th (congrArg Value.int (congrFun hW1.ti 9)) ?_
    refine s_iloadn dX3_moratorium_23 rfl rfl ?_
    refine s_iceq (tgt := 31) dX3_moratorium_24 (by decide) (fun c_24 => ?_) (fun c_24 => ?_)
    · skip
      refine s_iconst (v := 0) dX3_moratorium_31 (by decide) ?_
      exact s_reti dX3_moratorium_32 rfl rfl (PO.of (F := f_X3_moratorium c k z) (by unfold f_X3_moratorium; rw [if_pos r_1, if_pos c_24]) hW1 hF1)
    · skip
      refine s_iconst (v := 1) dX3_moratorium_27 (by decide) ?_
      refine s_goto (tgt := 32) dX3_moratorium_28 (by decide) ?_
      exact s_reti dX3_moratorium_32 rfl rfl (PO.of (F := f_X3_moratorium c k z) (by unfold f_X3_moratorium; rw [if_pos r_1, if_neg c_24]) hW1 hF1)
  · exact s_cs1T (n := 14) dX3_moratorium_1 rfl rfl (by decide) (by decide) (by decide) (by decide) (Nat.le_of_ble_eq_true rfl) (m_needKind_no r_1) rfl (PO.of (F := f_X3_moratorium c k z) (x := .inr 3) (by unfold f_X3_moratorium; rw [if_neg r_1]) hW hF)
def g_X3_year (n : Nat) (c : CC) : Nat → Int64 × CC
  | 0 => (0, c)
  | k + 1 => (((g_X3_year n c k).1) + ((f_X3_passYear n (g_X3_year n c k).2).1), (f_X3_passYear n (g_X3_year n c k).2).2)
theorem g_X3_year_s {n : Nat} {c : CC} {k : Nat} : g_X3_year n c (k + 1) = ((((g_X3_year n c k).1) + ((f_X3_passYear n (g_X3_year n c k).2).1), (f_X3_passYear n (g_X3_year n c k).2).2) : Int64 × CC) := rfl
def f_X3_year (n : Nat) (c : CC) (ys : Int32) : Out × CC := if rng ys 1 10 then (if ((c.ti 3) + ys) ≤ 60 then (.inl (some (.long ((g_X3_year n c (ix ys)).1))), (g_X3_year n c (ix ys)).2) else (.inr 2, c)) else (.inr 1, c)
set_option maxHeartbeats 4000000 in
theorem m_X3_year {tm : Nat × Nat} {S : Sto} {w : CAd} {c : CC} {ys : Int32} (hW : CW tm S w c)  : Ev tm M_X3_year [.ref w.th, .int ys] S (PO tm w S (f_X3_year w.n c ys)) := by
  have hF : FrC S S := FrC.rf
  refine ev_in ok_X3_year (Nat.le_of_ble_eq_true rfl) ?_
  have hn40 := hW.n40
  refine s_iloadn dX3_year_0 rfl rfl ?_
  refine s_iconst (v := 1) dX3_year_1 (by decide) ?_
  refine s_bipush (v := 10) dX3_year_2 (by decide) ?_
  by_cases r_4 : rng ys 1 10
  · refine s_cs3V (n := 11) dX3_year_4 rfl rfl (by decide) (by decide) (by decide) (by decide) (Nat.le_of_ble_eq_true rfl) (m_needRange_ok r_4) ?_
    refine s_aloadn dX3_year_7 rfl rfl ?_
    refine s_get (v := .int (c.ti 3)) (n := 7) dX3_year_8 rfl hW.th (congrArg Value.int (congrFun hW.ti 3)) ?_
    refine s_iloadn dX3_year_11 rfl rfl ?_
    refine s_iadd dX3_year_12 ?_
    refine s_bipush (v := 60) dX3_year_13 (by decide) ?_
    refine s_icle (tgt := 28) dX3_year_15 (by decide) (fun c_15 => ?_) (fun c_15 => ?_)
    · skip
      refine s_lconst (v := 0) dX3_year_28 (by decide) ?_
      refine s_lstoren dX3_year_29 rfl (by decide) ?_
      refine s_iconst (v := 0) dX3_year_30 (by decide) ?_
      refine s_istore dX3_year_31 (by decide) ?_
      have LP_33 : ∀ (d k : Nat), k + d = (ix ys) → ∀ (S1 : Sto), CW tm S1 w ((g_X3_year w.n c k).2) → FrC S S1 → Wp (Ev tm) tm M_X3_year (PO tm w S (f_X3_year w.n c ys)) 33 [(0, .ref w.th), (1, .int ys), (2, .long ((g_X3_year w.n c k).1)), (4, .int (nI k))] [] 0 0 S1 := by
        intro d
        induction d with
        | zero =>
          intro k hkd S1 hW1 hF1
          have hkn : k = (ix ys) := by omega
          subst hkn
          refine s_iload dX3_year_33 rfl ?_
          refine s_iloadn dX3_year_35 rfl rfl ?_
          refine s_icge (tgt := 52) dX3_year_36 (by decide) (fun _ => ?_) (fun c => absurd (ixz r_4) c)
          refine s_lloadn dX3_year_52 rfl rfl ?_
          exact s_retl dX3_year_53 rfl (PO.of (F := f_X3_year w.n c ys) (by unfold f_X3_year; rw [if_pos r_4, if_pos c_15]) hW1 hF1)
        | succ d ih =>
          intro k hkd S1 hW1 hF1
          have hlt : k < (ix ys) := by omega
          refine s_iload dX3_year_33 rfl ?_
          refine s_iloadn dX3_year_35 rfl rfl ?_
          refine s_icge (tgt := 52) dX3_year_36 (by decide) (fun c => absurd c (ixm r_4 hlt)) (fun _ => ?_)
          refine s_lloadn dX3_year_39 rfl rfl ?_
          refine s_aloadn dX3_year_40 rfl rfl ?_
          refine s_cv0G (n := 26) dX3_year_41 rfl (kv hW1.th (by decide) rfl) rfl (by decide) (by decide) (by decide) (by decide) (Nat.le_of_ble_eq_true rfl) (m_X3_passYear hW1) (fun r2 S2 hr2 => ?_) (fun x S2 hr => by obtain ⟨e, -⟩ := hr; cases e)
          obtain ⟨e2, hW2, hG2⟩ := hr2
          cases e2
          have hF2 := hF1.tr hG2
          refine s_ladd dX3_year_44 ?_
          refine s_lstoren dX3_year_45 rfl (by decide) ?_
          refine s_iinc (v := (nI k) + 1) dX3_year_46 rfl (by rfl) (by decide) ?_
          refine s_goto (tgt := 33) dX3_year_49 (by decide) ?_
          exact s_sub (lo' := [(0, .ref w.th), (1, .int ys), (2, .long ((g_X3_year w.n c (k + 1)).1)), (4, .int (nI (k + 1)))]) (List.forall_mem_cons.mpr ⟨rfl, List.forall_mem_cons.mpr ⟨rfl, List.forall_mem_cons.mpr ⟨congrArg (fun z => some (Value.long z)) (Eq.symm (by rw [g_X3_year_s])), List.forall_mem_cons.mpr ⟨congrArg (fun z => some (Value.int z)) (nI_1 k), fun _ h => absurd h List.not_mem_nil⟩⟩⟩⟩) (Nat.zero_le _) (Nat.zero_le _) (ih (k + 1) (by omega) S2 (by rw [g_X3_year_s]; exact hW2) hF2)
      exact s_sub (lo' := [(0, .ref w.th), (1, .int ys), (2, .long ((g_X3_year w.n c 0).1)), (4, .int (nI 0))]) (List.forall_mem_cons.mpr ⟨rfl, List.forall_mem_cons.mpr ⟨rfl, List.forall_mem_cons.mpr ⟨rfl, List.forall_mem_cons.mpr ⟨rfl, fun _ h => absurd h List.not_mem_nil⟩⟩⟩⟩) (Nat.zero_le _) (Nat.zero_le _) (LP_33 (ix ys) 0 (by omega) S hW hF)
    · skip
      exact s_thr (x := 2) ⟨rfl, rfl, by decide, by decide, 93, 97, 121, _, by decide, List.mem_of_getElem? (i := 6) rfl, dX3_year_18, dX3_year_21, Or.inl ⟨dX3_year_22, dX3_year_24, dX3_year_27⟩⟩ (by decide) (by decide) (by decide) (PO.of (F := f_X3_year w.n c ys) (x := .inr 2) (by unfold f_X3_year; rw [if_pos r_4, if_neg c_15]) hW hF)
  · exact s_cs3T (n := 11) dX3_year_4 rfl rfl (by decide) (by decide) (by decide) (by decide) (Nat.le_of_ble_eq_true rfl) (m_needRange_no r_4) rfl (PO.of (F := f_X3_year w.n c ys) (x := .inr 1) (by unfold f_X3_year; rw [if_neg r_4]) hW hF)
def f_X3_discount (c : CC) (r : Int32) : Out × CC := if rng r 0 1500 then (.inl (some (.int (c.ti 8))), (c.pti 8 r)) else (.inr 1, c)
set_option maxHeartbeats 4000000 in
theorem m_X3_discount {tm : Nat × Nat} {S : Sto} {w : CAd} {c : CC} {r : Int32} (hW : CW tm S w c)  : Ev tm M_X3_discount [.ref w.th, .int r] S (PO tm w S (f_X3_discount c r)) := by
  have hF : FrC S S := FrC.rf
  refine ev_in ok_X3_discount (Nat.le_of_ble_eq_true rfl) ?_
  have hn40 := hW.n40
  refine s_iloadn dX3_discount_0 rfl rfl ?_
  refine s_iconst (v := 0) dX3_discount_1 (by decide) ?_
  refine s_sipush (v := 1500) dX3_discount_2 (by decide) ?_
  by_cases r_5 : rng r 0 1500
  · refine s_cs3V (n := 11) dX3_discount_5 rfl rfl (by decide) (by decide) (by decide) (by decide) (Nat.le_of_ble_eq_true rfl) (m_needRange_ok r_5) ?_
    refine s_aloadn dX3_discount_8 rfl rfl ?_
    refine s_get (v := .int (c.ti 8)) (n := 12) dX3_discount_9 rfl hW.th (congrArg Value.int (congrFun hW.ti 8)) ?_
    refine s_istoren dX3_discount_12 rfl (by decide) ?_
    refine s_aloadn dX3_discount_13 rfl rfl ?_
    refine s_iloadn dX3_discount_14 rfl rfl ?_
    refine s_putI (n := 12) dX3_discount_15 rfl hW.th (Or.inl rfl) (fun _ _ _ => rfl) rfl rfl ?_
    have hW1 := hW.pti (k := 8) (v := r)
    have hF1 := hF.uI (k := 8) (v := r) hW.th (kd := 4) (by decide)
    refine s_iloadn dX3_discount_18 rfl rfl ?_
    exact s_reti dX3_discount_19 rfl rfl (PO.of (F := f_X3_discount c r) (by unfold f_X3_discount; rw [if_pos r_5]) hW1 hF1)
  · exact s_cs3T (n := 11) dX3_discount_5 rfl rfl (by decide) (by decide) (by decide) (by decide) (Nat.le_of_ble_eq_true rfl) (m_needRange_no r_5) rfl (PO.of (F := f_X3_discount c r) (x := .inr 1) (by unfold f_X3_discount; rw [if_neg r_5]) hW hF)
def f_X3_vote (n no : Nat) (c : CC) (k o z : Int32) : Out × CC := if inr k n then (if inr o no then (if (i_X0_isVoter c (ix k)) = 0 then (.inr 2, c) else (.inl none, (f_X1_tell c (ix o) k z))) else (.inr 3, c)) else (.inr 3, c)
set_option maxHeartbeats 4000000 in
theorem m_X3_vote {tm : Nat × Nat} {S : Sto} {w : CAd} {c : CC} {k o z : Int32} (hW : CW tm S w c) (hz : z = 0 ∨ z = 1) : Ev tm M_X3_vote [.ref w.th, .int k, .int o, .int z] S (PO tm w S (f_X3_vote w.n w.no c k o z)) := by
  have hF : FrC S S := FrC.rf
  refine ev_in ok_X3_vote (Nat.le_of_ble_eq_true rfl) ?_
  have hn40 := hW.n40
  refine s_aloadn dX3_vote_0 rfl rfl ?_
  refine s_iloadn dX3_vote_1 rfl rfl ?_
  by_cases r_2 : inr k w.n
  · refine s_cv1R (n := 12) dX3_vote_2 rfl (kv hW.th (by decide) rfl) rfl (by decide) (by decide) (by decide) (by decide) (Nat.le_of_ble_eq_true rfl) (m_claimAt_ok hW r_2) ?_
    refine s_astore dX3_vote_5 (by decide) ?_
    refine s_aloadn dX3_vote_7 rfl rfl ?_
    refine s_iloadn dX3_vote_8 rfl rfl ?_
    by_cases r_9 : inr o w.no
    · refine s_cv1R (n := 29) dX3_vote_9 rfl (kv hW.th (by decide) rfl) rfl (by decide) (by decide) (by decide) (by decide) (Nat.le_of_ble_eq_true rfl) (m_offerAt_ok hW r_9) ?_
      refine s_astore dX3_vote_12 (by decide) ?_
      refine s_aload dX3_vote_14 rfl ?_
      refine s_cv0R (n := 31) dX3_vote_16 rfl (kv (hW.cK _ (Nat.lt_of_lt_of_le (inr_lt r_2 hW.n40) hW.nm)) (by decide) rfl) rfl (by decide) (by decide) (by decide) (by decide) (Nat.le_of_ble_eq_true rfl) (mi_X0_isVoter hW (Nat.lt_of_lt_of_le (inr_lt r_2 hW.n40) hW.nm)) ?_
      refine s_ifne (tgt := 32) dX3_vote_19 (by decide) (fun c_19 => ?_) (fun c_19 => ?_)
      · skip
        refine s_aload dX3_vote_32 rfl ?_
        refine s_iloadn dX3_vote_34 rfl rfl ?_
        refine s_iloadn dX3_vote_35 rfl rfl ?_
        refine s_cv2G (n := 32) dX3_vote_36 rfl (kv (hW.oK (inr_lt r_9 (Nat.le_trans hW.n12 (by decide)))) (by decide) rfl) rfl (by decide) (by decide) (by decide) (by decide) (Nat.le_of_ble_eq_true rfl) (m_X1_tell hW (inr_lt r_9 (Nat.le_trans hW.n12 (by decide)))) (fun r1 S1 hr1 => ?_) (fun x S2 hr => by obtain ⟨e, -⟩ := hr; cases e)
        obtain ⟨e1, hW1, hG1⟩ := hr1
        cases e1
        have hF1 := hF.tr hG1
        exact s_retv dX3_vote_39 rfl (PO.of (F := f_X3_vote w.n w.no c k o z) (by unfold f_X3_vote; rw [if_pos r_2, if_pos r_9, if_neg c_19]) hW1 hF1)
      · skip
        exact s_thr (x := 2) ⟨rfl, rfl, by decide, by decide, 93, 97, 247, _, by decide, List.mem_of_getElem? (i := 10) rfl, dX3_vote_22, dX3_vote_25, Or.inl ⟨dX3_vote_26, dX3_vote_28, dX3_vote_31⟩⟩ (by decide) (by decide) (by decide) (PO.of (F := f_X3_vote w.n w.no c k o z) (x := .inr 2) (by unfold f_X3_vote; rw [if_pos r_2, if_pos r_9, if_pos c_19]) hW hF)
    · exact s_cv1T (n := 29) dX3_vote_9 rfl (kv hW.th (by decide) rfl) rfl (by decide) (by decide) (by decide) (by decide) (Nat.le_of_ble_eq_true rfl) (m_offerAt_no hW r_9) rfl (PO.of (F := f_X3_vote w.n w.no c k o z) (x := .inr 3) (by unfold f_X3_vote; rw [if_pos r_2, if_neg r_9]) hW hF)
  · exact s_cv1T (n := 12) dX3_vote_2 rfl (kv hW.th (by decide) rfl) rfl (by decide) (by decide) (by decide) (by decide) (Nat.le_of_ble_eq_true rfl) (m_claimAt_no hW r_2) rfl (PO.of (F := f_X3_vote w.n w.no c k o z) (x := .inr 3) (by unfold f_X3_vote; rw [if_neg r_2]) hW hF)
def f_X3_sue (n : Nat) (c : CC) (k : Int32) : Out × CC := if inr k n then (if (i_X0_isOpen c (ix k)) = 0 then (.inr 2, c) else (if (c.cj (ix k) 9) = 0 then (.inr 2, c) else (if (c.ci (ix k) 11) = 0 then (.inl none, (c.pci (ix k) 11 1)) else (.inr 2, c)))) else (.inr 3, c)
set_option maxHeartbeats 4000000 in
theorem m_X3_sue {tm : Nat × Nat} {S : Sto} {w : CAd} {c : CC} {k : Int32} (hW : CW tm S w c)  : Ev tm M_X3_sue [.ref w.th, .int k] S (PO tm w S (f_X3_sue w.n c k)) := by
  have hF : FrC S S := FrC.rf
  refine ev_in ok_X3_sue (Nat.le_of_ble_eq_true rfl) ?_
  have hn40 := hW.n40
  refine s_aloadn dX3_sue_0 rfl rfl ?_
  refine s_iloadn dX3_sue_1 rfl rfl ?_
  by_cases r_2 : inr k w.n
  · refine s_cv1R (n := 12) dX3_sue_2 rfl (kv hW.th (by decide) rfl) rfl (by decide) (by decide) (by decide) (by decide) (Nat.le_of_ble_eq_true rfl) (m_claimAt_ok hW r_2) ?_
    refine s_astoren dX3_sue_5 rfl (by decide) ?_
    refine s_aloadn dX3_sue_6 rfl rfl ?_
    refine s_cv0R (n := 13) dX3_sue_7 rfl (kv (hW.cK _ (Nat.lt_of_lt_of_le (inr_lt r_2 hW.n40) hW.nm)) (by decide) rfl) rfl (by decide) (by decide) (by decide) (by decide) (Nat.le_of_ble_eq_true rfl) (mi_X0_isOpen hW (Nat.lt_of_lt_of_le (inr_lt r_2 hW.n40) hW.nm)) ?_
    refine s_ifeq (tgt := 29) dX3_sue_10 (by decide) (fun c_10 => ?_) (fun c_10 => ?_)
    · skip
      exact s_thr (x := 2) ⟨rfl, rfl, by decide, by decide, 93, 97, 298, _, by decide, List.mem_of_getElem? (i := 12) rfl, dX3_sue_29, dX3_sue_32, Or.inr ⟨dX3_sue_33, dX3_sue_36, dX3_sue_39⟩⟩ (by decide) (by decide) (by decide) (PO.of (F := f_X3_sue w.n c k) (x := .inr 2) (by unfold f_X3_sue; rw [if_pos r_2, if_pos c_10]) hW hF)
    · skip
      refine s_aloadn dX3_sue_13 rfl rfl ?_
      refine s_get (v := .long (c.cj (ix k) 9)) (n := 36) dX3_sue_14 rfl (hW.cK _ (Nat.lt_of_lt_of_le (inr_lt r_2 hW.n40) hW.nm)) (congrArg Value.long (congrFun (hW.cj _ (Nat.lt_of_lt_of_le (inr_lt r_2 hW.n40) hW.nm)) 9)) ?_
      refine s_lconst (v := 0) dX3_sue_17 (by decide) ?_
      refine s_lceq (tgt := 29) dX3_sue_18 dX3_sue_19 (by decide) (fun c_18 => ?_) (fun c_18 => ?_)
      · skip
        exact s_thr (x := 2) ⟨rfl, rfl, by decide, by decide, 93, 97, 298, _, by decide, List.mem_of_getElem? (i := 12) rfl, dX3_sue_29, dX3_sue_32, Or.inr ⟨dX3_sue_33, dX3_sue_36, dX3_sue_39⟩⟩ (by decide) (by decide) (by decide) (PO.of (F := f_X3_sue w.n c k) (x := .inr 2) (by unfold f_X3_sue; rw [if_pos r_2, if_neg c_10, if_pos c_18]) hW hF)
      · skip
        refine s_aloadn dX3_sue_22 rfl rfl ?_
        refine s_get (v := .int (c.ci (ix k) 11)) (n := 40) dX3_sue_23 rfl (hW.cK _ (Nat.lt_of_lt_of_le (inr_lt r_2 hW.n40) hW.nm)) (congrArg Value.int (congrFun (hW.ci _ (Nat.lt_of_lt_of_le (inr_lt r_2 hW.n40) hW.nm)) 11)) ?_
        refine s_ifeq (tgt := 40) dX3_sue_26 (by decide) (fun c_26 => ?_) (fun c_26 => ?_)
        · skip
          refine s_aloadn dX3_sue_40 rfl rfl ?_
          refine s_iconst (v := 1) dX3_sue_41 (by decide) ?_
          refine s_putI (n := 40) dX3_sue_42 rfl (hW.cK _ (Nat.lt_of_lt_of_le (inr_lt r_2 hW.n40) hW.nm)) (Or.inl rfl) (fun _ _ _ => rfl) rfl rfl ?_
          have hW1 := hW.pci (Nat.lt_of_lt_of_le (inr_lt r_2 hW.n40) hW.nm) (fun e => absurd e (by decide)) (fun e => absurd e (by decide)) (k := 11) (v := 1)
          have hF1 := hF.uI (k := 11) (v := 1) (hW.cK _ (Nat.lt_of_lt_of_le (inr_lt r_2 hW.n40) hW.nm)) (kd := 1) (by decide)
          exact s_retv dX3_sue_45 rfl (PO.of (F := f_X3_sue w.n c k) (by unfold f_X3_sue; rw [if_pos r_2, if_neg c_10, if_neg c_18, if_pos c_26]) hW1 hF1)
        · skip
          exact s_thr (x := 2) ⟨rfl, rfl, by decide, by decide, 93, 97, 298, _, by decide, List.mem_of_getElem? (i := 12) rfl, dX3_sue_29, dX3_sue_32, Or.inr ⟨dX3_sue_33, dX3_sue_36, dX3_sue_39⟩⟩ (by decide) (by decide) (by decide) (PO.of (F := f_X3_sue w.n c k) (x := .inr 2) (by unfold f_X3_sue; rw [if_pos r_2, if_neg c_10, if_neg c_18, if_neg c_26]) hW hF)
  · exact s_cv1T (n := 12) dX3_sue_2 rfl (kv hW.th (by decide) rfl) rfl (by decide) (by decide) (by decide) (by decide) (Nat.le_of_ble_eq_true rfl) (m_claimAt_no hW r_2) rfl (PO.of (F := f_X3_sue w.n c k) (x := .inr 3) (by unfold f_X3_sue; rw [if_neg r_2]) hW hF)
def f_X3_seize (n nt : Nat) (c : CC) (k g : Int32) : Out × CC := if inr k n then (if inr g nt then (if (i_X0_isOpen c (ix k)) = 0 then (.inr 2, c) else (if (c.ci (ix k) 11) = 2 then (if (c.gi (ix g) 1) = 0 then (if (i_X0_owed ((f_X0_receive (c.pgi (ix g) 1 1) (ix k) (f_J9_min_f86c9 (((c.gi (ix g) 0) : Int32).toInt64) (i_X0_owed c (ix k)))).ptj 4 (((f_X0_receive (c.pgi (ix g) 1 1) (ix k) (f_J9_min_f86c9 (((c.gi (ix g) 0) : Int32).toInt64) (i_X0_owed c (ix k)))).tj 4) + (((((f_X0_receive (c.pgi (ix g) 1 1) (ix k) (f_J9_min_f86c9 (((c.gi (ix g) 0) : Int32).toInt64) (i_X0_owed c (ix k)))).gi (ix g) 0) : Int32).toInt64) - (f_J9_min_f86c9 (((c.gi (ix g) 0) : Int32).toInt64) (i_X0_owed c (ix k)))))) (ix k)) = 0 then (.inl (some (.long (f_J9_min_f86c9 (((c.gi (ix g) 0) : Int32).toInt64) (i_X0_owed c (ix k))))), (f_X3_close ((f_X0_receive (c.pgi (ix g) 1 1) (ix k) (f_J9_min_f86c9 (((c.gi (ix g) 0) : Int32).toInt64) (i_X0_owed c (ix k)))).ptj 4 (((f_X0_receive (c.pgi (ix g) 1 1) (ix k) (f_J9_min_f86c9 (((c.gi (ix g) 0) : Int32).toInt64) (i_X0_owed c (ix k)))).tj 4) + (((((f_X0_receive (c.pgi (ix g) 1 1) (ix k) (f_J9_min_f86c9 (((c.gi (ix g) 0) : Int32).toInt64) (i_X0_owed c (ix k)))).gi (ix g) 0) : Int32).toInt64) - (f_J9_min_f86c9 (((c.gi (ix g) 0) : Int32).toInt64) (i_X0_owed c (ix k)))))) (ix k))) else (.inl (some (.long (f_J9_min_f86c9 (((c.gi (ix g) 0) : Int32).toInt64) (i_X0_owed c (ix k))))), ((f_X0_receive (c.pgi (ix g) 1 1) (ix k) (f_J9_min_f86c9 (((c.gi (ix g) 0) : Int32).toInt64) (i_X0_owed c (ix k)))).ptj 4 (((f_X0_receive (c.pgi (ix g) 1 1) (ix k) (f_J9_min_f86c9 (((c.gi (ix g) 0) : Int32).toInt64) (i_X0_owed c (ix k)))).tj 4) + (((((f_X0_receive (c.pgi (ix g) 1 1) (ix k) (f_J9_min_f86c9 (((c.gi (ix g) 0) : Int32).toInt64) (i_X0_owed c (ix k)))).gi (ix g) 0) : Int32).toInt64) - (f_J9_min_f86c9 (((c.gi (ix g) 0) : Int32).toInt64) (i_X0_owed c (ix k)))))))) else (.inr 2, c)) else (.inr 2, c))) else (.inr 3, c)) else (.inr 3, c)
set_option maxHeartbeats 4000000 in
theorem m_X3_seize {tm : Nat × Nat} {S : Sto} {w : CAd} {c : CC} {k g : Int32} (hW : CW tm S w c)  : Ev tm M_X3_seize [.ref w.th, .int k, .int g] S (PO tm w S (f_X3_seize w.n w.nt c k g)) := by
  have hF : FrC S S := FrC.rf
  refine ev_in ok_X3_seize (Nat.le_of_ble_eq_true rfl) ?_
  have hn40 := hW.n40
  refine s_aloadn dX3_seize_0 rfl rfl ?_
  refine s_iloadn dX3_seize_1 rfl rfl ?_
  by_cases r_2 : inr k w.n
  · refine s_cv1R (n := 12) dX3_seize_2 rfl (kv hW.th (by decide) rfl) rfl (by decide) (by decide) (by decide) (by decide) (Nat.le_of_ble_eq_true rfl) (m_claimAt_ok hW r_2) ?_
    refine s_astoren dX3_seize_5 rfl (by decide) ?_
    refine s_aloadn dX3_seize_6 rfl rfl ?_
    refine s_iloadn dX3_seize_7 rfl rfl ?_
    by_cases r_8 : inr g w.nt
    · refine s_cv1R (n := 40) dX3_seize_8 rfl (kv hW.th (by decide) rfl) rfl (by decide) (by decide) (by decide) (by decide) (Nat.le_of_ble_eq_true rfl) (m_thingAt_ok hW r_8) ?_
      refine s_astore dX3_seize_11 (by decide) ?_
      refine s_aloadn dX3_seize_13 rfl rfl ?_
      refine s_cv0R (n := 13) dX3_seize_14 rfl (kv (hW.cK _ (Nat.lt_of_lt_of_le (inr_lt r_2 hW.n40) hW.nm)) (by decide) rfl) rfl (by decide) (by decide) (by decide) (by decide) (Nat.le_of_ble_eq_true rfl) (mi_X0_isOpen hW (Nat.lt_of_lt_of_le (inr_lt r_2 hW.n40) hW.nm)) ?_
      refine s_ifeq (tgt := 36) dX3_seize_17 (by decide) (fun c_17 => ?_) (fun c_17 => ?_)
      · skip
        exact s_thr (x := 2) ⟨rfl, rfl, by decide, by decide, 93, 97, 307, _, by decide, List.mem_of_getElem? (i := 14) rfl, dX3_seize_36, dX3_seize_39, Or.inr ⟨dX3_seize_40, dX3_seize_43, dX3_seize_46⟩⟩ (by decide) (by decide) (by decide) (PO.of (F := f_X3_seize w.n w.nt c k g) (x := .inr 2) (by unfold f_X3_seize; rw [if_pos r_2, if_pos r_8, if_pos c_17]) hW hF)
      · skip
        refine s_aloadn dX3_seize_20 rfl rfl ?_
        refine s_get (v := .int (c.ci (ix k) 11)) (n := 40) dX3_seize_21 rfl (hW.cK _ (Nat.lt_of_lt_of_le (inr_lt r_2 hW.n40) hW.nm)) (congrArg Value.int (congrFun (hW.ci _ (Nat.lt_of_lt_of_le (inr_lt r_2 hW.n40) hW.nm)) 11)) ?_
        refine s_iconst (v := 2) dX3_seize_24 (by decide) ?_
        refine s_icne (tgt := 36) dX3_seize_25 (by decide) (fun c_25 => ?_) (fun c_25 => ?_)
        · skip
          exact s_thr (x := 2) ⟨rfl, rfl, by decide, by decide, 93, 97, 307, _, by decide, List.mem_of_getElem? (i := 14) rfl, dX3_seize_36, dX3_seize_39, Or.inr ⟨dX3_seize_40, dX3_seize_43, dX3_seize_46⟩⟩ (by decide) (by decide) (by decide) (PO.of (F := f_X3_seize w.n w.nt c k g) (x := .inr 2) (by unfold f_X3_seize; rw [if_pos r_2, if_pos r_8, if_neg c_17, if_neg c_25]) hW hF)
        · skip
          refine s_aload dX3_seize_28 rfl ?_
          refine s_get (v := .int (c.gi (ix g) 1)) (n := 60) dX3_seize_30 rfl (hW.gK (inr_lt r_8 (Nat.le_trans hW.n10 (by decide)))) (congrArg Value.int (congrFun (hW.gi _ (inr_lt r_8 (Nat.le_trans hW.n10 (by decide)))) 1)) ?_
          refine s_ifeq (tgt := 47) dX3_seize_33 (by decide) (fun c_33 => ?_) (fun c_33 => ?_)
          · skip
            refine s_aload dX3_seize_47 rfl ?_
            refine s_get (v := .int (c.gi (ix g) 0)) (n := 58) dX3_seize_49 rfl (hW.gK (inr_lt r_8 (Nat.le_trans hW.n10 (by decide)))) (congrArg Value.int (congrFun (hW.gi _ (inr_lt r_8 (Nat.le_trans hW.n10 (by decide)))) 0)) ?_
            refine s_i2l dX3_seize_52 ?_
            refine s_aloadn dX3_seize_53 rfl rfl ?_
            refine s_cv0R (n := 15) dX3_seize_54 rfl (kv (hW.cK _ (Nat.lt_of_lt_of_le (inr_lt r_2 hW.n40) hW.nm)) (by decide) rfl) rfl (by decide) (by decide) (by decide) (by decide) (Nat.le_of_ble_eq_true rfl) (mi_X0_owed hW (Nat.lt_of_lt_of_le (inr_lt r_2 hW.n40) hW.nm)) ?_
            refine s_cs2R (n := 16) dX3_seize_57 rfl rfl (by decide) (by decide) (by decide) (by decide) (Nat.le_of_ble_eq_true rfl) (m_J9_min_f86c9) ?_
            refine s_lstore dX3_seize_60 (by decide) ?_
            refine s_aload dX3_seize_62 rfl ?_
            refine s_iconst (v := 1) dX3_seize_64 (by decide) ?_
            refine s_putI (n := 60) dX3_seize_65 rfl (hW.gK (inr_lt r_8 (Nat.le_trans hW.n10 (by decide)))) (Or.inl rfl) (fun _ _ _ => rfl) (nr_bool (by decide)) (ft_bool (by decide)) ?_
            have hW1 := hW.pgi (inr_lt r_8 (Nat.le_trans hW.n10 (by decide))) (k := 1) (v := 1)
            have hF1 := hF.uI (k := 1) (v := 1) (hW.gK (inr_lt r_8 (Nat.le_trans hW.n10 (by decide)))) (kd := 3) (by decide)
            refine s_aloadn dX3_seize_68 rfl rfl ?_
            refine s_lload dX3_seize_69 rfl ?_
            refine s_cv1G (n := 17) dX3_seize_71 rfl (kv (hW1.cK _ (Nat.lt_of_lt_of_le (inr_lt r_2 hW.n40) hW.nm)) (by decide) rfl) rfl (by decide) (by decide) (by decide) (by decide) (Nat.le_of_ble_eq_true rfl) (m_X0_receive hW1 (Nat.lt_of_lt_of_le (inr_lt r_2 hW.n40) hW.nm)) (fun r2 S2 hr2 => ?_) (fun x S2 hr => by obtain ⟨e, -⟩ := hr; cases e)
            obtain ⟨e2, hW2, hG2⟩ := hr2
            cases e2
            have hF2 := hF1.tr hG2
            refine s_aloadn dX3_seize_74 rfl rfl ?_
            refine s_dup dX3_seize_75 rfl ?_
            refine s_get (v := .long ((f_X0_receive (c.pgi (ix g) 1 1) (ix k) (f_J9_min_f86c9 (((c.gi (ix g) 0) : Int32).toInt64) (i_X0_owed c (ix k)))).tj 4)) (n := 8) dX3_seize_76 rfl hW2.th (congrArg Value.long (congrFun hW2.tj 4)) ?_
            refine s_aload dX3_seize_79 rfl ?_
            refine s_get (v := .int ((f_X0_receive (c.pgi (ix g) 1 1) (ix k) (f_J9_min_f86c9 (((c.gi (ix g) 0) : Int32).toInt64) (i_X0_owed c (ix k)))).gi (ix g) 0)) (n := 58) dX3_seize_81 rfl (hW2.gK (inr_lt r_8 (Nat.le_trans hW.n10 (by decide)))) (congrArg Value.int (congrFun (hW2.gi _ (inr_lt r_8 (Nat.le_trans hW.n10 (by decide)))) 0)) ?_
            refine s_i2l dX3_seize_84 ?_
            refine s_lload dX3_seize_85 rfl ?_
            refine s_lsub dX3_seize_87 ?_
            refine s_ladd dX3_seize_88 ?_
            refine s_putJ (n := 8) dX3_seize_89 rfl hW2.th (Or.inl rfl) (fun _ _ _ => rfl) rfl rfl ?_
            have hW3 := hW2.ptj (k := 4) (v := ((f_X0_receive (c.pgi (ix g) 1 1) (ix k) (f_J9_min_f86c9 (((c.gi (ix g) 0) : Int32).toInt64) (i_X0_owed c (ix k)))).tj 4) + (((((f_X0_receive (c.pgi (ix g) 1 1) (ix k) (f_J9_min_f86c9 (((c.gi (ix g) 0) : Int32).toInt64) (i_X0_owed c (ix k)))).gi (ix g) 0) : Int32).toInt64) - (f_J9_min_f86c9 (((c.gi (ix g) 0) : Int32).toInt64) (i_X0_owed c (ix k)))))
            have hF3 := hF2.uJ (k := 4) (v := ((f_X0_receive (c.pgi (ix g) 1 1) (ix k) (f_J9_min_f86c9 (((c.gi (ix g) 0) : Int32).toInt64) (i_X0_owed c (ix k)))).tj 4) + (((((f_X0_receive (c.pgi (ix g) 1 1) (ix k) (f_J9_min_f86c9 (((c.gi (ix g) 0) : Int32).toInt64) (i_X0_owed c (ix k)))).gi (ix g) 0) : Int32).toInt64) - (f_J9_min_f86c9 (((c.gi (ix g) 0) : Int32).toInt64) (i_X0_owed c (ix k))))) hW2.th (kd := 4) (by decide)
            refine s_aloadn dX3_seize_92 rfl rfl ?_
            refine s_cv0R (n := 15) dX3_seize_93 rfl (kv (hW3.cK _ (Nat.lt_of_lt_of_le (inr_lt r_2 hW.n40) hW.nm)) (by decide) rfl) rfl (by decide) (by decide) (by decide) (by decide) (Nat.le_of_ble_eq_true rfl) (mi_X0_owed hW3 (Nat.lt_of_lt_of_le (inr_lt r_2 hW.n40) hW.nm)) ?_
            refine s_lconst (v := 0) dX3_seize_96 (by decide) ?_
            refine s_lcne (tgt := 106) dX3_seize_97 dX3_seize_98 (by decide) (fun c_97 => ?_) (fun c_97 => ?_)
            · skip
              refine s_lload dX3_seize_106 rfl ?_
              exact s_retl dX3_seize_108 rfl (PO.of (F := f_X3_seize w.n w.nt c k g) (by unfold f_X3_seize; rw [if_pos r_2, if_pos r_8, if_neg c_17, if_pos c_25, if_pos c_33, if_neg c_97]) hW3 hF3)
            · skip
              refine s_aloadn dX3_seize_101 rfl rfl ?_
              refine s_aloadn dX3_seize_102 rfl rfl ?_
              refine s_cv1G (n := 20) dX3_seize_103 rfl (kv hW3.th (by decide) rfl) rfl (by decide) (by decide) (by decide) (by decide) (Nat.le_of_ble_eq_true rfl) (m_X3_close hW3 (Nat.lt_of_lt_of_le (inr_lt r_2 hW.n40) hW.nm)) (fun r4 S4 hr4 => ?_) (fun x S2 hr => by obtain ⟨e, -⟩ := hr; cases e)
              obtain ⟨e4, hW4, hG4⟩ := hr4
              cases e4
              have hF4 := hF3.tr hG4
              refine s_lload dX3_seize_106 rfl ?_
              exact s_retl dX3_seize_108 rfl (PO.of (F := f_X3_seize w.n w.nt c k g) (by unfold f_X3_seize; rw [if_pos r_2, if_pos r_8, if_neg c_17, if_pos c_25, if_pos c_33, if_pos c_97]) hW4 hF4)
          · skip
            exact s_thr (x := 2) ⟨rfl, rfl, by decide, by decide, 93, 97, 307, _, by decide, List.mem_of_getElem? (i := 14) rfl, dX3_seize_36, dX3_seize_39, Or.inr ⟨dX3_seize_40, dX3_seize_43, dX3_seize_46⟩⟩ (by decide) (by decide) (by decide) (PO.of (F := f_X3_seize w.n w.nt c k g) (x := .inr 2) (by unfold f_X3_seize; rw [if_pos r_2, if_pos r_8, if_neg c_17, if_pos c_25, if_neg c_33]) hW hF)
    · exact s_cv1T (n := 40) dX3_seize_8 rfl (kv hW.th (by decide) rfl) rfl (by decide) (by decide) (by decide) (by decide) (Nat.le_of_ble_eq_true rfl) (m_thingAt_no hW r_8) rfl (PO.of (F := f_X3_seize w.n w.nt c k g) (x := .inr 3) (by unfold f_X3_seize; rw [if_pos r_2, if_neg r_8]) hW hF)
  · exact s_cv1T (n := 12) dX3_seize_2 rfl (kv hW.th (by decide) rfl) rfl (by decide) (by decide) (by decide) (by decide) (Nat.le_of_ble_eq_true rfl) (m_claimAt_no hW r_2) rfl (PO.of (F := f_X3_seize w.n w.nt c k g) (x := .inr 3) (by unfold f_X3_seize; rw [if_neg r_2]) hW hF)
def f_X3_programme (c : CC) (a t r : Int32) : Out × CC := if rng a 1 1000000 then (if rng t (-200) 200 then (if rng r 1 10 then (.inl none, (((c.pti 11 a).pti 12 t).pti 13 r)) else (.inr 1, c)) else (.inr 1, c)) else (.inr 1, c)
set_option maxHeartbeats 4000000 in
theorem m_X3_programme {tm : Nat × Nat} {S : Sto} {w : CAd} {c : CC} {a t r : Int32} (hW : CW tm S w c)  : Ev tm M_X3_programme [.ref w.th, .int a, .int t, .int r] S (PO tm w S (f_X3_programme c a t r)) := by
  have hF : FrC S S := FrC.rf
  refine ev_in ok_X3_programme (Nat.le_of_ble_eq_true rfl) ?_
  have hn40 := hW.n40
  refine s_iloadn dX3_programme_0 rfl rfl ?_
  refine s_iconst (v := 1) dX3_programme_1 (by decide) ?_
  refine s_ldc (v := 1000000) dX3_programme_2 cst_RX3_63 ?_
  by_cases r_4 : rng a 1 1000000
  · refine s_cs3V (n := 11) dX3_programme_4 rfl rfl (by decide) (by decide) (by decide) (by decide) (Nat.le_of_ble_eq_true rfl) (m_needRange_ok r_4) ?_
    refine s_iloadn dX3_programme_7 rfl rfl ?_
    refine s_sipush (v := (-200)) dX3_programme_8 (by decide) ?_
    refine s_sipush (v := 200) dX3_programme_11 (by decide) ?_
    by_cases r_14 : rng t (-200) 200
    · refine s_cs3V (n := 11) dX3_programme_14 rfl rfl (by decide) (by decide) (by decide) (by decide) (Nat.le_of_ble_eq_true rfl) (m_needRange_ok r_14) ?_
      refine s_iloadn dX3_programme_17 rfl rfl ?_
      refine s_iconst (v := 1) dX3_programme_18 (by decide) ?_
      refine s_bipush (v := 10) dX3_programme_19 (by decide) ?_
      by_cases r_21 : rng r 1 10
      · refine s_cs3V (n := 11) dX3_programme_21 rfl rfl (by decide) (by decide) (by decide) (by decide) (Nat.le_of_ble_eq_true rfl) (m_needRange_ok r_21) ?_
        refine s_aloadn dX3_programme_24 rfl rfl ?_
        refine s_iloadn dX3_programme_25 rfl rfl ?_
        refine s_putI (n := 15) dX3_programme_26 rfl hW.th (Or.inl rfl) (fun _ _ _ => rfl) rfl rfl ?_
        have hW1 := hW.pti (k := 11) (v := a)
        have hF1 := hF.uI (k := 11) (v := a) hW.th (kd := 4) (by decide)
        refine s_aloadn dX3_programme_29 rfl rfl ?_
        refine s_iloadn dX3_programme_30 rfl rfl ?_
        refine s_putI (n := 16) dX3_programme_31 rfl hW1.th (Or.inl rfl) (fun _ _ _ => rfl) rfl rfl ?_
        have hW2 := hW1.pti (k := 12) (v := t)
        have hF2 := hF1.uI (k := 12) (v := t) hW1.th (kd := 4) (by decide)
        refine s_aloadn dX3_programme_34 rfl rfl ?_
        refine s_iloadn dX3_programme_35 rfl rfl ?_
        refine s_putI (n := 17) dX3_programme_36 rfl hW2.th (Or.inl rfl) (fun _ _ _ => rfl) rfl rfl ?_
        have hW3 := hW2.pti (k := 13) (v := r)
        have hF3 := hF2.uI (k := 13) (v := r) hW2.th (kd := 4) (by decide)
        exact s_retv dX3_programme_39 rfl (PO.of (F := f_X3_programme c a t r) (by unfold f_X3_programme; rw [if_pos r_4, if_pos r_14, if_pos r_21]) hW3 hF3)
      · exact s_cs3T (n := 11) dX3_programme_21 rfl rfl (by decide) (by decide) (by decide) (by decide) (Nat.le_of_ble_eq_true rfl) (m_needRange_no r_21) rfl (PO.of (F := f_X3_programme c a t r) (x := .inr 1) (by unfold f_X3_programme; rw [if_pos r_4, if_pos r_14, if_neg r_21]) hW hF)
    · exact s_cs3T (n := 11) dX3_programme_14 rfl rfl (by decide) (by decide) (by decide) (by decide) (Nat.le_of_ble_eq_true rfl) (m_needRange_no r_14) rfl (PO.of (F := f_X3_programme c a t r) (x := .inr 1) (by unfold f_X3_programme; rw [if_pos r_4, if_neg r_14]) hW hF)
  · exact s_cs3T (n := 11) dX3_programme_4 rfl rfl (by decide) (by decide) (by decide) (by decide) (Nat.le_of_ble_eq_true rfl) (m_needRange_no r_4) rfl (PO.of (F := f_X3_programme c a t r) (x := .inr 1) (by unfold f_X3_programme; rw [if_neg r_4]) hW hF)
def f_X3_assure (c : CC) (k z : Int32) : Out × CC := if k < 0 then (.inr 3, c) else (if k ≤ 7 then (if (f_X3_withBit (c.ti 10) k z) = (c.ti 10) then (.inl (some (.int 0)), (c.pti 10 (f_X3_withBit (c.ti 10) k z))) else (.inl (some (.int 1)), (c.pti 10 (f_X3_withBit (c.ti 10) k z)))) else (.inr 3, c))
set_option maxHeartbeats 4000000 in
theorem m_X3_assure {tm : Nat × Nat} {S : Sto} {w : CAd} {c : CC} {k z : Int32} (hW : CW tm S w c) (hz : z = 0 ∨ z = 1) : Ev tm M_X3_assure [.ref w.th, .int k, .int z] S (PO tm w S (f_X3_assure c k z)) := by
  have hF : FrC S S := FrC.rf
  refine ev_in ok_X3_assure (Nat.le_of_ble_eq_true rfl) ?_
  have hn40 := hW.n40
  refine s_iloadn dX3_assure_0 rfl rfl ?_
  refine s_iflt (tgt := 10) dX3_assure_1 (by decide) (fun c_1 => ?_) (fun c_1 => ?_)
  · skip
    exact s_thr (x := 3) ⟨rfl, rfl, by decide, by decide, 311, 315, 313, _, by decide, List.mem_of_getElem? (i := 15) rfl, dX3_assure_10, dX3_assure_13, Or.inr ⟨dX3_assure_14, dX3_assure_17, dX3_assure_20⟩⟩ (by decide) (by decide) (by decide) (PO.of (F := f_X3_assure c k z) (x := .inr 3) (by unfold f_X3_assure; rw [if_pos c_1]) hW hF)
  · skip
    refine s_iloadn dX3_assure_4 rfl rfl ?_
    refine s_bipush (v := 7) dX3_assure_5 (by decide) ?_
    refine s_icle (tgt := 21) dX3_assure_7 (by decide) (fun c_7 => ?_) (fun c_7 => ?_)
    · skip
      refine s_aloadn dX3_assure_21 rfl rfl ?_
      refine s_get (v := .int (c.ti 10)) (n := 14) dX3_assure_22 rfl hW.th (congrArg Value.int (congrFun hW.ti 10)) ?_
      refine s_istoren dX3_assure_25 rfl (by decide) ?_
      refine s_aloadn dX3_assure_26 rfl rfl ?_
      refine s_iloadn dX3_assure_27 rfl rfl ?_
      refine s_iloadn dX3_assure_28 rfl rfl ?_
      refine s_iloadn dX3_assure_29 rfl rfl ?_
      refine s_cs3R (n := 15) dX3_assure_30 rfl rfl (by decide) (by decide) (by decide) (by decide) (Nat.le_of_ble_eq_true rfl) (m_X3_withBit) ?_
      refine s_putI (n := 14) dX3_assure_33 rfl hW.th (Or.inl rfl) (fun _ _ _ => rfl) rfl rfl ?_
      have hW1 := hW.pti (k := 10) (v := (f_X3_withBit (c.ti 10) k z))
      have hF1 := hF.uI (k := 10) (v := (f_X3_withBit (c.ti 10) k z)) hW.th (kd := 4) (by decide)
      refine s_aloadn dX3_assure_36 rfl rfl ?_
      refine s_get (v := .int (f_X3_withBit (c.ti 10) k z)) (n := 14) dX3_assure_37 rfl hW1.th (congrArg Value.int (congrFun hW1.ti 10)) ?_
      refine s_iloadn dX3_assure_40 rfl rfl ?_
      refine s_iceq (tgt := 48) dX3_assure_41 (by decide) (fun c_41 => ?_) (fun c_41 => ?_)
      · skip
        refine s_iconst (v := 0) dX3_assure_48 (by decide) ?_
        exact s_reti dX3_assure_49 rfl rfl (PO.of (F := f_X3_assure c k z) (by unfold f_X3_assure; rw [if_neg c_1, if_pos c_7, if_pos c_41]) hW1 hF1)
      · skip
        refine s_iconst (v := 1) dX3_assure_44 (by decide) ?_
        refine s_goto (tgt := 49) dX3_assure_45 (by decide) ?_
        exact s_reti dX3_assure_49 rfl rfl (PO.of (F := f_X3_assure c k z) (by unfold f_X3_assure; rw [if_neg c_1, if_pos c_7, if_neg c_41]) hW1 hF1)
    · skip
      exact s_thr (x := 3) ⟨rfl, rfl, by decide, by decide, 311, 315, 313, _, by decide, List.mem_of_getElem? (i := 15) rfl, dX3_assure_10, dX3_assure_13, Or.inr ⟨dX3_assure_14, dX3_assure_17, dX3_assure_20⟩⟩ (by decide) (by decide) (by decide) (PO.of (F := f_X3_assure c k z) (x := .inr 3) (by unfold f_X3_assure; rw [if_neg c_1, if_neg c_7]) hW hF)
def f_X3_value (n : Nat) (c : CC) (k r : Int32) : Out × CC := if inr k n then (if rng r 0 1500 then (.inl (some (.long (f_X0_worth c (ix k) (c.ti 3) r))), c) else (.inr 1, c)) else (.inr 3, c)
set_option maxHeartbeats 4000000 in
theorem m_X3_value {tm : Nat × Nat} {S : Sto} {w : CAd} {c : CC} {k r : Int32} (hW : CW tm S w c)  : Ev tm M_X3_value [.ref w.th, .int k, .int r] S (PO tm w S (f_X3_value w.n c k r)) := by
  have hF : FrC S S := FrC.rf
  refine ev_in ok_X3_value (Nat.le_of_ble_eq_true rfl) ?_
  have hn40 := hW.n40
  refine s_aloadn dX3_value_0 rfl rfl ?_
  refine s_iloadn dX3_value_1 rfl rfl ?_
  by_cases r_2 : inr k w.n
  · refine s_cv1R (n := 12) dX3_value_2 rfl (kv hW.th (by decide) rfl) rfl (by decide) (by decide) (by decide) (by decide) (Nat.le_of_ble_eq_true rfl) (m_claimAt_ok hW r_2) ?_
    refine s_astoren dX3_value_5 rfl (by decide) ?_
    refine s_iloadn dX3_value_6 rfl rfl ?_
    refine s_iconst (v := 0) dX3_value_7 (by decide) ?_
    refine s_sipush (v := 1500) dX3_value_8 (by decide) ?_
    by_cases r_11 : rng r 0 1500
    · refine s_cs3V (n := 11) dX3_value_11 rfl rfl (by decide) (by decide) (by decide) (by decide) (Nat.le_of_ble_eq_true rfl) (m_needRange_ok r_11) ?_
      refine s_aloadn dX3_value_14 rfl rfl ?_
      refine s_aloadn dX3_value_15 rfl rfl ?_
      refine s_get (v := .int (c.ti 3)) (n := 7) dX3_value_16 rfl hW.th (congrArg Value.int (congrFun hW.ti 3)) ?_
      refine s_iloadn dX3_value_19 rfl rfl ?_
      refine s_cv2R (n := 28) dX3_value_20 rfl (kv (hW.cK _ (Nat.lt_of_lt_of_le (inr_lt r_2 hW.n40) hW.nm)) (by decide) rfl) rfl (by decide) (by decide) (by decide) (by decide) (Nat.le_of_ble_eq_true rfl) (m_X0_worth hW (Nat.lt_of_lt_of_le (inr_lt r_2 hW.n40) hW.nm)) ?_
      exact s_retl dX3_value_23 rfl (PO.of (F := f_X3_value w.n c k r) (by unfold f_X3_value; rw [if_pos r_2, if_pos r_11]) hW hF)
    · exact s_cs3T (n := 11) dX3_value_11 rfl rfl (by decide) (by decide) (by decide) (by decide) (Nat.le_of_ble_eq_true rfl) (m_needRange_no r_11) rfl (PO.of (F := f_X3_value w.n c k r) (x := .inr 1) (by unfold f_X3_value; rw [if_pos r_2, if_neg r_11]) hW hF)
  · exact s_cv1T (n := 12) dX3_value_2 rfl (kv hW.th (by decide) rfl) rfl (by decide) (by decide) (by decide) (by decide) (Nat.le_of_ble_eq_true rfl) (m_claimAt_no hW r_2) rfl (PO.of (F := f_X3_value w.n c k r) (x := .inr 3) (by unfold f_X3_value; rw [if_neg r_2]) hW hF)
def f_X3_offered (n no : Nat) (c : CC) (k o r : Int32) : Out × CC := if inr k n then (if inr o no then (if rng r 0 1500 then (if (i_X0_isOpen c (ix k)) = 0 then (.inl (some (.long 0)), c) else (.inl (some (.long (f_X3_discounted (i_X1_principalFor c (ix o) (ix k)) (c.oi (ix o) 1) (c.oi (ix o) 2) r))), c)) else (.inr 1, c)) else (.inr 3, c)) else (.inr 3, c)
set_option maxHeartbeats 4000000 in
theorem m_X3_offered {tm : Nat × Nat} {S : Sto} {w : CAd} {c : CC} {k o r : Int32} (hW : CW tm S w c)  : Ev tm M_X3_offered [.ref w.th, .int k, .int o, .int r] S (PO tm w S (f_X3_offered w.n w.no c k o r)) := by
  have hF : FrC S S := FrC.rf
  refine ev_in ok_X3_offered (Nat.le_of_ble_eq_true rfl) ?_
  have hn40 := hW.n40
  refine s_aloadn dX3_offered_0 rfl rfl ?_
  refine s_iloadn dX3_offered_1 rfl rfl ?_
  by_cases r_2 : inr k w.n
  · refine s_cv1R (n := 12) dX3_offered_2 rfl (kv hW.th (by decide) rfl) rfl (by decide) (by decide) (by decide) (by decide) (Nat.le_of_ble_eq_true rfl) (m_claimAt_ok hW r_2) ?_
    refine s_astore dX3_offered_5 (by decide) ?_
    refine s_aloadn dX3_offered_7 rfl rfl ?_
    refine s_iloadn dX3_offered_8 rfl rfl ?_
    by_cases r_9 : inr o w.no
    · refine s_cv1R (n := 29) dX3_offered_9 rfl (kv hW.th (by decide) rfl) rfl (by decide) (by decide) (by decide) (by decide) (Nat.le_of_ble_eq_true rfl) (m_offerAt_ok hW r_9) ?_
      refine s_astore dX3_offered_12 (by decide) ?_
      refine s_iloadn dX3_offered_14 rfl rfl ?_
      refine s_iconst (v := 0) dX3_offered_15 (by decide) ?_
      refine s_sipush (v := 1500) dX3_offered_16 (by decide) ?_
      by_cases r_19 : rng r 0 1500
      · refine s_cs3V (n := 11) dX3_offered_19 rfl rfl (by decide) (by decide) (by decide) (by decide) (Nat.le_of_ble_eq_true rfl) (m_needRange_ok r_19) ?_
        refine s_aload dX3_offered_22 rfl ?_
        refine s_cv0R (n := 13) dX3_offered_24 rfl (kv (hW.cK _ (Nat.lt_of_lt_of_le (inr_lt r_2 hW.n40) hW.nm)) (by decide) rfl) rfl (by decide) (by decide) (by decide) (by decide) (Nat.le_of_ble_eq_true rfl) (mi_X0_isOpen hW (Nat.lt_of_lt_of_le (inr_lt r_2 hW.n40) hW.nm)) ?_
        refine s_ifeq (tgt := 54) dX3_offered_27 (by decide) (fun c_27 => ?_) (fun c_27 => ?_)
        · skip
          refine s_lconst (v := 0) dX3_offered_54 (by decide) ?_
          exact s_retl dX3_offered_55 rfl (PO.of (F := f_X3_offered w.n w.no c k o r) (by unfold f_X3_offered; rw [if_pos r_2, if_pos r_9, if_pos r_19, if_pos c_27]) hW hF)
        · skip
          refine s_aload dX3_offered_30 rfl ?_
          refine s_aload dX3_offered_32 rfl ?_
          refine s_cv1R (n := 27) dX3_offered_34 rfl (kv (hW.oK (inr_lt r_9 (Nat.le_trans hW.n12 (by decide)))) (by decide) rfl) rfl (by decide) (by decide) (by decide) (by decide) (Nat.le_of_ble_eq_true rfl) (mi_X1_principalFor hW (inr_lt r_9 (Nat.le_trans hW.n12 (by decide))) (Nat.lt_of_lt_of_le (inr_lt r_2 hW.n40) hW.nm)) ?_
          refine s_aload dX3_offered_37 rfl ?_
          refine s_get (v := .int (c.oi (ix o) 1)) (n := 53) dX3_offered_39 rfl (hW.oK (inr_lt r_9 (Nat.le_trans hW.n12 (by decide)))) (congrArg Value.int (congrFun (hW.oi _ (inr_lt r_9 (Nat.le_trans hW.n12 (by decide)))) 1)) ?_
          refine s_aload dX3_offered_42 rfl ?_
          refine s_get (v := .int (c.oi (ix o) 2)) (n := 55) dX3_offered_44 rfl (hW.oK (inr_lt r_9 (Nat.le_trans hW.n12 (by decide)))) (congrArg Value.int (congrFun (hW.oi _ (inr_lt r_9 (Nat.le_trans hW.n12 (by decide)))) 2)) ?_
          refine s_iloadn dX3_offered_47 rfl rfl ?_
          refine s_cs4R (n := 20) dX3_offered_48 rfl rfl (by decide) (by decide) (by decide) (by decide) (Nat.le_of_ble_eq_true rfl) (m_X3_discounted hW) ?_
          refine s_goto (tgt := 55) dX3_offered_51 (by decide) ?_
          exact s_retl dX3_offered_55 rfl (PO.of (F := f_X3_offered w.n w.no c k o r) (by unfold f_X3_offered; rw [if_pos r_2, if_pos r_9, if_pos r_19, if_neg c_27]) hW hF)
      · exact s_cs3T (n := 11) dX3_offered_19 rfl rfl (by decide) (by decide) (by decide) (by decide) (Nat.le_of_ble_eq_true rfl) (m_needRange_no r_19) rfl (PO.of (F := f_X3_offered w.n w.no c k o r) (x := .inr 1) (by unfold f_X3_offered; rw [if_pos r_2, if_pos r_9, if_neg r_19]) hW hF)
    · exact s_cv1T (n := 29) dX3_offered_9 rfl (kv hW.th (by decide) rfl) rfl (by decide) (by decide) (by decide) (by decide) (Nat.le_of_ble_eq_true rfl) (m_offerAt_no hW r_9) rfl (PO.of (F := f_X3_offered w.n w.no c k o r) (x := .inr 3) (by unfold f_X3_offered; rw [if_pos r_2, if_neg r_9]) hW hF)
  · exact s_cv1T (n := 12) dX3_offered_2 rfl (kv hW.th (by decide) rfl) rfl (by decide) (by decide) (by decide) (by decide) (Nat.le_of_ble_eq_true rfl) (m_claimAt_no hW r_2) rfl (PO.of (F := f_X3_offered w.n w.no c k o r) (x := .inr 3) (by unfold f_X3_offered; rw [if_neg r_2]) hW hF)
def f_X3_effort (n : Nat) (c : CC) (k : Int32) : Out × CC := if inr k 5 then (.inl (some (.int (f_X3_effortOf n c k))), c) else (.inr 3, c)
set_option maxHeartbeats 4000000 in
theorem m_X3_effort {tm : Nat × Nat} {S : Sto} {w : CAd} {c : CC} {k : Int32} (hW : CW tm S w c)  : Ev tm M_X3_effort [.ref w.th, .int k] S (PO tm w S (f_X3_effort w.n c k)) := by
  have hF : FrC S S := FrC.rf
  refine ev_in ok_X3_effort (Nat.le_of_ble_eq_true rfl) ?_
  have hn40 := hW.n40
  refine s_iloadn dX3_effort_0 rfl rfl ?_
  by_cases r_1 : inr k 5
  · refine s_cs1V (n := 14) dX3_effort_1 rfl rfl (by decide) (by decide) (by decide) (by decide) (Nat.le_of_ble_eq_true rfl) (m_needKind_ok r_1) ?_
    refine s_aloadn dX3_effort_4 rfl rfl ?_
    refine s_iloadn dX3_effort_5 rfl rfl ?_
    refine s_cv1R (n := 46) dX3_effort_6 rfl (kv hW.th (by decide) rfl) rfl (by decide) (by decide) (by decide) (by decide) (Nat.le_of_ble_eq_true rfl) (m_X3_effortOf hW ) ?_
    exact s_reti dX3_effort_9 rfl rfl (PO.of (F := f_X3_effort w.n c k) (by unfold f_X3_effort; rw [if_pos r_1]) hW hF)
  · exact s_cs1T (n := 14) dX3_effort_1 rfl rfl (by decide) (by decide) (by decide) (by decide) (Nat.le_of_ble_eq_true rfl) (m_needKind_no r_1) rfl (PO.of (F := f_X3_effort w.n c k) (x := .inr 3) (by unfold f_X3_effort; rw [if_neg r_1]) hW hF)
def f_X3_passes (n no : Nat) (c : CC) (o s : Int32) : Out × CC := if inr o no then (if s = (-1) then (if s = (-1) then (.inl (some (.int (f_X3_arePooled n c (ix o)))), c) else (.inl (some (.int (f_X3_hasMajority n c (ix o) s 75))), c)) else (if s < 0 then (.inr 3, c) else (if s ≤ 3 then (if s = (-1) then (.inl (some (.int (f_X3_arePooled n c (ix o)))), c) else (.inl (some (.int (f_X3_hasMajority n c (ix o) s 75))), c)) else (.inr 3, c)))) else (.inr 3, c)
set_option maxHeartbeats 4000000 in
theorem m_X3_passes {tm : Nat × Nat} {S : Sto} {w : CAd} {c : CC} {o s : Int32} (hW : CW tm S w c)  : Ev tm M_X3_passes [.ref w.th, .int o, .int s] S (PO tm w S (f_X3_passes w.n w.no c o s)) := by
  have hF : FrC S S := FrC.rf
  refine ev_in ok_X3_passes (Nat.le_of_ble_eq_true rfl) ?_
  have hn40 := hW.n40
  refine s_aloadn dX3_passes_0 rfl rfl ?_
  refine s_iloadn dX3_passes_1 rfl rfl ?_
  by_cases r_2 : inr o w.no
  · refine s_cv1R (n := 29) dX3_passes_2 rfl (kv hW.th (by decide) rfl) rfl (by decide) (by decide) (by decide) (by decide) (Nat.le_of_ble_eq_true rfl) (m_offerAt_ok hW r_2) ?_
    refine s_astoren dX3_passes_5 rfl (by decide) ?_
    refine s_iloadn dX3_passes_6 rfl rfl ?_
    refine s_iconst (v := (-1)) dX3_passes_7 (by decide) ?_
    refine s_iceq (tgt := 31) dX3_passes_8 (by decide) (fun c_8 => ?_) (fun c_8 => ?_)
    · skip
      refine s_iloadn dX3_passes_31 rfl rfl ?_
      refine s_iconst (v := (-1)) dX3_passes_32 (by decide) ?_
      refine s_icne (tgt := 44) dX3_passes_33 (by decide) (fun c_33 => ?_) (fun c_33 => ?_)
      · skip
        refine s_aloadn dX3_passes_44 rfl rfl ?_
        refine s_aloadn dX3_passes_45 rfl rfl ?_
        refine s_iloadn dX3_passes_46 rfl rfl ?_
        refine s_bipush (v := 75) dX3_passes_47 (by decide) ?_
        refine s_cv3R (n := 36) dX3_passes_49 rfl (kv hW.th (by decide) rfl) rfl (by decide) (by decide) (by decide) (by decide) (Nat.le_of_ble_eq_true rfl) (m_X3_hasMajority hW (inr_lt r_2 (Nat.le_trans hW.n12 (by decide)))) ?_
        exact s_reti dX3_passes_52 rfl (nr_bool b_X3_hasMajority) (PO.of (F := f_X3_passes w.n w.no c o s) (by unfold f_X3_passes; rw [if_pos r_2, if_pos c_8, if_neg c_33]) hW hF)
      · skip
        refine s_aloadn dX3_passes_36 rfl rfl ?_
        refine s_aloadn dX3_passes_37 rfl rfl ?_
        refine s_cv1R (n := 37) dX3_passes_38 rfl (kv hW.th (by decide) rfl) rfl (by decide) (by decide) (by decide) (by decide) (Nat.le_of_ble_eq_true rfl) (m_X3_arePooled hW (inr_lt r_2 (Nat.le_trans hW.n12 (by decide)))) ?_
        refine s_goto (tgt := 52) dX3_passes_41 (by decide) ?_
        exact s_reti dX3_passes_52 rfl (nr_bool b_X3_arePooled) (PO.of (F := f_X3_passes w.n w.no c o s) (by unfold f_X3_passes; rw [if_pos r_2, if_pos c_8, if_pos c_33]) hW hF)
    · skip
      refine s_iloadn dX3_passes_11 rfl rfl ?_
      refine s_iflt (tgt := 20) dX3_passes_12 (by decide) (fun c_12 => ?_) (fun c_12 => ?_)
      · skip
        exact s_thr (x := 3) ⟨rfl, rfl, by decide, by decide, 311, 315, 347, _, by decide, List.mem_of_getElem? (i := 17) rfl, dX3_passes_20, dX3_passes_23, Or.inr ⟨dX3_passes_24, dX3_passes_27, dX3_passes_30⟩⟩ (by decide) (by decide) (by decide) (PO.of (F := f_X3_passes w.n w.no c o s) (x := .inr 3) (by unfold f_X3_passes; rw [if_pos r_2, if_neg c_8, if_pos c_12]) hW hF)
      · skip
        refine s_iloadn dX3_passes_15 rfl rfl ?_
        refine s_iconst (v := 3) dX3_passes_16 (by decide) ?_
        refine s_icle (tgt := 31) dX3_passes_17 (by decide) (fun c_17 => ?_) (fun c_17 => ?_)
        · skip
          refine s_iloadn dX3_passes_31 rfl rfl ?_
          refine s_iconst (v := (-1)) dX3_passes_32 (by decide) ?_
          refine s_icne (tgt := 44) dX3_passes_33 (by decide) (fun c_33 => ?_) (fun c_33 => ?_)
          · skip
            refine s_aloadn dX3_passes_44 rfl rfl ?_
            refine s_aloadn dX3_passes_45 rfl rfl ?_
            refine s_iloadn dX3_passes_46 rfl rfl ?_
            refine s_bipush (v := 75) dX3_passes_47 (by decide) ?_
            refine s_cv3R (n := 36) dX3_passes_49 rfl (kv hW.th (by decide) rfl) rfl (by decide) (by decide) (by decide) (by decide) (Nat.le_of_ble_eq_true rfl) (m_X3_hasMajority hW (inr_lt r_2 (Nat.le_trans hW.n12 (by decide)))) ?_
            exact s_reti dX3_passes_52 rfl (nr_bool b_X3_hasMajority) (PO.of (F := f_X3_passes w.n w.no c o s) (by unfold f_X3_passes; rw [if_pos r_2, if_neg c_8, if_neg c_12, if_pos c_17, if_neg c_33]) hW hF)
          · skip
            refine s_aloadn dX3_passes_36 rfl rfl ?_
            refine s_aloadn dX3_passes_37 rfl rfl ?_
            refine s_cv1R (n := 37) dX3_passes_38 rfl (kv hW.th (by decide) rfl) rfl (by decide) (by decide) (by decide) (by decide) (Nat.le_of_ble_eq_true rfl) (m_X3_arePooled hW (inr_lt r_2 (Nat.le_trans hW.n12 (by decide)))) ?_
            refine s_goto (tgt := 52) dX3_passes_41 (by decide) ?_
            exact s_reti dX3_passes_52 rfl (nr_bool b_X3_arePooled) (PO.of (F := f_X3_passes w.n w.no c o s) (by unfold f_X3_passes; rw [if_pos r_2, if_neg c_8, if_neg c_12, if_pos c_17, if_pos c_33]) hW hF)
        · skip
          exact s_thr (x := 3) ⟨rfl, rfl, by decide, by decide, 311, 315, 347, _, by decide, List.mem_of_getElem? (i := 17) rfl, dX3_passes_20, dX3_passes_23, Or.inr ⟨dX3_passes_24, dX3_passes_27, dX3_passes_30⟩⟩ (by decide) (by decide) (by decide) (PO.of (F := f_X3_passes w.n w.no c o s) (x := .inr 3) (by unfold f_X3_passes; rw [if_pos r_2, if_neg c_8, if_neg c_12, if_neg c_17]) hW hF)
  · exact s_cv1T (n := 29) dX3_passes_2 rfl (kv hW.th (by decide) rfl) rfl (by decide) (by decide) (by decide) (by decide) (Nat.le_of_ble_eq_true rfl) (m_offerAt_no hW r_2) rfl (PO.of (F := f_X3_passes w.n w.no c o s) (x := .inr 3) (by unfold f_X3_passes; rw [if_neg r_2]) hW hF)
def f_X3_ofClaim (n : Nat) (c : CC) (k q : Int32) : Out × CC := if inr k n then (if q = 0 then (.inl (some (.long (((c.ci (ix k) 8) : Int32).toInt64))), c) else (if q = 1 then (.inl (some (.long (c.cj (ix k) 5))), c) else (if q = 2 then (.inl (some (.long (c.cj (ix k) 9))), c) else (if q = 3 then (.inl (some (.long (((c.ci (ix k) 7) : Int32).toInt64))), c) else (if q = 4 then (.inl (some (.long (c.cj (ix k) 15))), c) else (if q = 5 then (.inl (some (.long (c.cj (ix k) 10))), c) else (if q = 6 then (.inl (some (.long (((c.ci (ix k) 11) : Int32).toInt64))), c) else (if q = 7 then (.inl (some (.long (((c.ci (ix k) 12) : Int32).toInt64))), c) else (.inr 1, c))))))))) else (.inr 3, c)
set_option maxHeartbeats 4000000 in
theorem m_X3_ofClaim {tm : Nat × Nat} {S : Sto} {w : CAd} {c : CC} {k q : Int32} (hW : CW tm S w c)  : Ev tm M_X3_ofClaim [.ref w.th, .int k, .int q] S (PO tm w S (f_X3_ofClaim w.n c k q)) := by
  have hF : FrC S S := FrC.rf
  refine ev_in ok_X3_ofClaim (Nat.le_of_ble_eq_true rfl) ?_
  have hn40 := hW.n40
  refine s_aloadn dX3_ofClaim_0 rfl rfl ?_
  refine s_iloadn dX3_ofClaim_1 rfl rfl ?_
  by_cases r_2 : inr k w.n
  · refine s_cv1R (n := 12) dX3_ofClaim_2 rfl (kv hW.th (by decide) rfl) rfl (by decide) (by decide) (by decide) (by decide) (Nat.le_of_ble_eq_true rfl) (m_claimAt_ok hW r_2) ?_
    refine s_astoren dX3_ofClaim_5 rfl (by decide) ?_
    refine s_iloadn dX3_ofClaim_6 rfl rfl ?_
    by_cases t_0 : q = 0
    · refine s_swin (off := 45) (tgt := 52) dX3_ofClaim_7 (by rw [t_0]; decide) (by rw [t_0]; decide) (by rw [t_0]; rfl) (by decide) ?_
      refine s_aloadn dX3_ofClaim_52 rfl rfl ?_
      refine s_get (v := .int (c.ci (ix k) 8)) (n := 34) dX3_ofClaim_53 rfl (hW.cK _ (Nat.lt_of_lt_of_le (inr_lt r_2 hW.n40) hW.nm)) (congrArg Value.int (congrFun (hW.ci _ (Nat.lt_of_lt_of_le (inr_lt r_2 hW.n40) hW.nm)) 8)) ?_
      refine s_i2l dX3_ofClaim_56 ?_
      exact s_retl dX3_ofClaim_57 rfl (PO.of (F := f_X3_ofClaim w.n c k q) (by unfold f_X3_ofClaim; rw [if_pos r_2, if_pos t_0]) hW hF)
    · skip
      by_cases t_1 : q = 1
      · refine s_swin (off := 51) (tgt := 58) dX3_ofClaim_7 (by rw [t_1]; decide) (by rw [t_1]; decide) (by rw [t_1]; rfl) (by decide) ?_
        refine s_aloadn dX3_ofClaim_58 rfl rfl ?_
        refine s_get (v := .long (c.cj (ix k) 5)) (n := 29) dX3_ofClaim_59 rfl (hW.cK _ (Nat.lt_of_lt_of_le (inr_lt r_2 hW.n40) hW.nm)) (congrArg Value.long (congrFun (hW.cj _ (Nat.lt_of_lt_of_le (inr_lt r_2 hW.n40) hW.nm)) 5)) ?_
        exact s_retl dX3_ofClaim_62 rfl (PO.of (F := f_X3_ofClaim w.n c k q) (by unfold f_X3_ofClaim; rw [if_pos r_2, if_neg t_0, if_pos t_1]) hW hF)
      · skip
        by_cases t_2 : q = 2
        · refine s_swin (off := 56) (tgt := 63) dX3_ofClaim_7 (by rw [t_2]; decide) (by rw [t_2]; decide) (by rw [t_2]; rfl) (by decide) ?_
          refine s_aloadn dX3_ofClaim_63 rfl rfl ?_
          refine s_get (v := .long (c.cj (ix k) 9)) (n := 36) dX3_ofClaim_64 rfl (hW.cK _ (Nat.lt_of_lt_of_le (inr_lt r_2 hW.n40) hW.nm)) (congrArg Value.long (congrFun (hW.cj _ (Nat.lt_of_lt_of_le (inr_lt r_2 hW.n40) hW.nm)) 9)) ?_
          exact s_retl dX3_ofClaim_67 rfl (PO.of (F := f_X3_ofClaim w.n c k q) (by unfold f_X3_ofClaim; rw [if_pos r_2, if_neg t_0, if_neg t_1, if_pos t_2]) hW hF)
        · skip
          by_cases t_3 : q = 3
          · refine s_swin (off := 61) (tgt := 68) dX3_ofClaim_7 (by rw [t_3]; decide) (by rw [t_3]; decide) (by rw [t_3]; rfl) (by decide) ?_
            refine s_aloadn dX3_ofClaim_68 rfl rfl ?_
            refine s_get (v := .int (c.ci (ix k) 7)) (n := 32) dX3_ofClaim_69 rfl (hW.cK _ (Nat.lt_of_lt_of_le (inr_lt r_2 hW.n40) hW.nm)) (congrArg Value.int (congrFun (hW.ci _ (Nat.lt_of_lt_of_le (inr_lt r_2 hW.n40) hW.nm)) 7)) ?_
            refine s_i2l dX3_ofClaim_72 ?_
            exact s_retl dX3_ofClaim_73 rfl (PO.of (F := f_X3_ofClaim w.n c k q) (by unfold f_X3_ofClaim; rw [if_pos r_2, if_neg t_0, if_neg t_1, if_neg t_2, if_pos t_3]) hW hF)
          · skip
            by_cases t_4 : q = 4
            · refine s_swin (off := 67) (tgt := 74) dX3_ofClaim_7 (by rw [t_4]; decide) (by rw [t_4]; decide) (by rw [t_4]; rfl) (by decide) ?_
              refine s_aloadn dX3_ofClaim_74 rfl rfl ?_
              refine s_get (v := .long (c.cj (ix k) 15)) (n := 48) dX3_ofClaim_75 rfl (hW.cK _ (Nat.lt_of_lt_of_le (inr_lt r_2 hW.n40) hW.nm)) (congrArg Value.long (congrFun (hW.cj _ (Nat.lt_of_lt_of_le (inr_lt r_2 hW.n40) hW.nm)) 15)) ?_
              exact s_retl dX3_ofClaim_78 rfl (PO.of (F := f_X3_ofClaim w.n c k q) (by unfold f_X3_ofClaim; rw [if_pos r_2, if_neg t_0, if_neg t_1, if_neg t_2, if_neg t_3, if_pos t_4]) hW hF)
            · skip
              by_cases t_5 : q = 5
              · refine s_swin (off := 72) (tgt := 79) dX3_ofClaim_7 (by rw [t_5]; decide) (by rw [t_5]; decide) (by rw [t_5]; rfl) (by decide) ?_
                refine s_aloadn dX3_ofClaim_79 rfl rfl ?_
                refine s_get (v := .long (c.cj (ix k) 10)) (n := 38) dX3_ofClaim_80 rfl (hW.cK _ (Nat.lt_of_lt_of_le (inr_lt r_2 hW.n40) hW.nm)) (congrArg Value.long (congrFun (hW.cj _ (Nat.lt_of_lt_of_le (inr_lt r_2 hW.n40) hW.nm)) 10)) ?_
                exact s_retl dX3_ofClaim_83 rfl (PO.of (F := f_X3_ofClaim w.n c k q) (by unfold f_X3_ofClaim; rw [if_pos r_2, if_neg t_0, if_neg t_1, if_neg t_2, if_neg t_3, if_neg t_4, if_pos t_5]) hW hF)
              · skip
                by_cases t_6 : q = 6
                · refine s_swin (off := 77) (tgt := 84) dX3_ofClaim_7 (by rw [t_6]; decide) (by rw [t_6]; decide) (by rw [t_6]; rfl) (by decide) ?_
                  refine s_aloadn dX3_ofClaim_84 rfl rfl ?_
                  refine s_get (v := .int (c.ci (ix k) 11)) (n := 40) dX3_ofClaim_85 rfl (hW.cK _ (Nat.lt_of_lt_of_le (inr_lt r_2 hW.n40) hW.nm)) (congrArg Value.int (congrFun (hW.ci _ (Nat.lt_of_lt_of_le (inr_lt r_2 hW.n40) hW.nm)) 11)) ?_
                  refine s_i2l dX3_ofClaim_88 ?_
                  exact s_retl dX3_ofClaim_89 rfl (PO.of (F := f_X3_ofClaim w.n c k q) (by unfold f_X3_ofClaim; rw [if_pos r_2, if_neg t_0, if_neg t_1, if_neg t_2, if_neg t_3, if_neg t_4, if_neg t_5, if_pos t_6]) hW hF)
                · skip
                  by_cases t_7 : q = 7
                  · refine s_swin (off := 83) (tgt := 90) dX3_ofClaim_7 (by rw [t_7]; decide) (by rw [t_7]; decide) (by rw [t_7]; rfl) (by decide) ?_
                    refine s_aloadn dX3_ofClaim_90 rfl rfl ?_
                    refine s_get (v := .int (c.ci (ix k) 12)) (n := 42) dX3_ofClaim_91 rfl (hW.cK _ (Nat.lt_of_lt_of_le (inr_lt r_2 hW.n40) hW.nm)) (congrArg Value.int (congrFun (hW.ci _ (Nat.lt_of_lt_of_le (inr_lt r_2 hW.n40) hW.nm)) 12)) ?_
                    refine s_i2l dX3_ofClaim_94 ?_
                    exact s_retl dX3_ofClaim_95 rfl (PO.of (F := f_X3_ofClaim w.n c k q) (by unfold f_X3_ofClaim; rw [if_pos r_2, if_neg t_0, if_neg t_1, if_neg t_2, if_neg t_3, if_neg t_4, if_neg t_5, if_neg t_6, if_pos t_7]) hW hF)
                  · skip
                    refine s_swout (tgt := 96) dX3_ofClaim_7 (sw7 (⟨t_0, t_1, t_2, t_3, t_4, t_5, t_6, t_7⟩)) (by decide) ?_
                    exact s_thr (x := 1) ⟨rfl, rfl, by decide, by decide, 363, 367, 365, _, by decide, List.mem_of_getElem? (i := 18) rfl, dX3_ofClaim_96, dX3_ofClaim_99, Or.inr ⟨dX3_ofClaim_100, dX3_ofClaim_103, dX3_ofClaim_106⟩⟩ (by decide) (by decide) (by decide) (PO.of (F := f_X3_ofClaim w.n c k q) (x := .inr 1) (by unfold f_X3_ofClaim; rw [if_pos r_2, if_neg t_0, if_neg t_1, if_neg t_2, if_neg t_3, if_neg t_4, if_neg t_5, if_neg t_6, if_neg t_7]) hW hF)
  · exact s_cv1T (n := 12) dX3_ofClaim_2 rfl (kv hW.th (by decide) rfl) rfl (by decide) (by decide) (by decide) (by decide) (Nat.le_of_ble_eq_true rfl) (m_claimAt_no hW r_2) rfl (PO.of (F := f_X3_ofClaim w.n c k q) (x := .inr 3) (by unfold f_X3_ofClaim; rw [if_neg r_2]) hW hF)
def f_X3_paidAnew (n : Nat) (c : CC) (k : Int32) : Out × CC := if inr k n then (.inl (some (.long (f_X0_paymentsAdded c (ix k)))), c) else (.inr 3, c)
set_option maxHeartbeats 4000000 in
theorem m_X3_paidAnew {tm : Nat × Nat} {S : Sto} {w : CAd} {c : CC} {k : Int32} (hW : CW tm S w c)  : Ev tm M_X3_paidAnew [.ref w.th, .int k] S (PO tm w S (f_X3_paidAnew w.n c k)) := by
  have hF : FrC S S := FrC.rf
  refine ev_in ok_X3_paidAnew (Nat.le_of_ble_eq_true rfl) ?_
  have hn40 := hW.n40
  refine s_aloadn dX3_paidAnew_0 rfl rfl ?_
  refine s_iloadn dX3_paidAnew_1 rfl rfl ?_
  by_cases r_2 : inr k w.n
  · refine s_cv1R (n := 12) dX3_paidAnew_2 rfl (kv hW.th (by decide) rfl) rfl (by decide) (by decide) (by decide) (by decide) (Nat.le_of_ble_eq_true rfl) (m_claimAt_ok hW r_2) ?_
    refine s_cv0R (n := 48) dX3_paidAnew_5 rfl (kv (hW.cK _ (Nat.lt_of_lt_of_le (inr_lt r_2 hW.n40) hW.nm)) (by decide) rfl) rfl (by decide) (by decide) (by decide) (by decide) (Nat.le_of_ble_eq_true rfl) (m_X0_paymentsAdded hW (Nat.lt_of_lt_of_le (inr_lt r_2 hW.n40) hW.nm)) ?_
    exact s_retl dX3_paidAnew_8 rfl (PO.of (F := f_X3_paidAnew w.n c k) (by unfold f_X3_paidAnew; rw [if_pos r_2]) hW hF)
  · exact s_cv1T (n := 12) dX3_paidAnew_2 rfl (kv hW.th (by decide) rfl) rfl (by decide) (by decide) (by decide) (by decide) (Nat.le_of_ble_eq_true rfl) (m_claimAt_no hW r_2) rfl (PO.of (F := f_X3_paidAnew w.n c k) (x := .inr 3) (by unfold f_X3_paidAnew; rw [if_neg r_2]) hW hF)
def f_X3_ofState (n : Nat) (c : CC) (q : Int32) : Out × CC := if q = 0 then (.inl (some (.long (((c.ti 3) : Int32).toInt64))), c) else (if q = 1 then (.inl (some (.long (c.tj 4))), c) else (if q = 2 then (.inl (some (.long (c.tj 5))), c) else (if q = 3 then (.inl (some (.long (f_X3_debt n c))), c) else (if q = 4 then (.inl (some (.long (((c.ti 13) : Int32).toInt64))), c) else (.inr 1, c)))))
set_option maxHeartbeats 4000000 in
theorem m_X3_ofState {tm : Nat × Nat} {S : Sto} {w : CAd} {c : CC} {q : Int32} (hW : CW tm S w c)  : Ev tm M_X3_ofState [.ref w.th, .int q] S (PO tm w S (f_X3_ofState w.n c q)) := by
  have hF : FrC S S := FrC.rf
  refine ev_in ok_X3_ofState (Nat.le_of_ble_eq_true rfl) ?_
  have hn40 := hW.n40
  refine s_iloadn dX3_ofState_0 rfl rfl ?_
  by_cases t_0 : q = 0
  · refine s_swin (off := 35) (tgt := 36) dX3_ofState_1 (by rw [t_0]; decide) (by rw [t_0]; decide) (by rw [t_0]; rfl) (by decide) ?_
    refine s_aloadn dX3_ofState_36 rfl rfl ?_
    refine s_get (v := .int (c.ti 3)) (n := 7) dX3_ofState_37 rfl hW.th (congrArg Value.int (congrFun hW.ti 3)) ?_
    refine s_i2l dX3_ofState_40 ?_
    exact s_retl dX3_ofState_41 rfl (PO.of (F := f_X3_ofState w.n c q) (by unfold f_X3_ofState; rw [if_pos t_0]) hW hF)
  · skip
    by_cases t_1 : q = 1
    · refine s_swin (off := 41) (tgt := 42) dX3_ofState_1 (by rw [t_1]; decide) (by rw [t_1]; decide) (by rw [t_1]; rfl) (by decide) ?_
      refine s_aloadn dX3_ofState_42 rfl rfl ?_
      refine s_get (v := .long (c.tj 4)) (n := 8) dX3_ofState_43 rfl hW.th (congrArg Value.long (congrFun hW.tj 4)) ?_
      exact s_retl dX3_ofState_46 rfl (PO.of (F := f_X3_ofState w.n c q) (by unfold f_X3_ofState; rw [if_neg t_0, if_pos t_1]) hW hF)
    · skip
      by_cases t_2 : q = 2
      · refine s_swin (off := 46) (tgt := 47) dX3_ofState_1 (by rw [t_2]; decide) (by rw [t_2]; decide) (by rw [t_2]; rfl) (by decide) ?_
        refine s_aloadn dX3_ofState_47 rfl rfl ?_
        refine s_get (v := .long (c.tj 5)) (n := 9) dX3_ofState_48 rfl hW.th (congrArg Value.long (congrFun hW.tj 5)) ?_
        exact s_retl dX3_ofState_51 rfl (PO.of (F := f_X3_ofState w.n c q) (by unfold f_X3_ofState; rw [if_neg t_0, if_neg t_1, if_pos t_2]) hW hF)
      · skip
        by_cases t_3 : q = 3
        · refine s_swin (off := 51) (tgt := 52) dX3_ofState_1 (by rw [t_3]; decide) (by rw [t_3]; decide) (by rw [t_3]; rfl) (by decide) ?_
          refine s_aloadn dX3_ofState_52 rfl rfl ?_
          refine s_cv0R (n := 16) dX3_ofState_53 rfl (kv hW.th (by decide) rfl) rfl (by decide) (by decide) (by decide) (by decide) (Nat.le_of_ble_eq_true rfl) (m_X3_debt hW ) ?_
          exact s_retl dX3_ofState_56 rfl (PO.of (F := f_X3_ofState w.n c q) (by unfold f_X3_ofState; rw [if_neg t_0, if_neg t_1, if_neg t_2, if_pos t_3]) hW hF)
        · skip
          by_cases t_4 : q = 4
          · refine s_swin (off := 56) (tgt := 57) dX3_ofState_1 (by rw [t_4]; decide) (by rw [t_4]; decide) (by rw [t_4]; rfl) (by decide) ?_
            refine s_aloadn dX3_ofState_57 rfl rfl ?_
            refine s_get (v := .int (c.ti 13)) (n := 17) dX3_ofState_58 rfl hW.th (congrArg Value.int (congrFun hW.ti 13)) ?_
            refine s_i2l dX3_ofState_61 ?_
            exact s_retl dX3_ofState_62 rfl (PO.of (F := f_X3_ofState w.n c q) (by unfold f_X3_ofState; rw [if_neg t_0, if_neg t_1, if_neg t_2, if_neg t_3, if_pos t_4]) hW hF)
          · skip
            refine s_swout (tgt := 63) dX3_ofState_1 (sw4 (⟨t_0, t_1, t_2, t_3, t_4⟩)) (by decide) ?_
            exact s_thr (x := 1) ⟨rfl, rfl, by decide, by decide, 363, 367, 371, _, by decide, List.mem_of_getElem? (i := 19) rfl, dX3_ofState_63, dX3_ofState_66, Or.inr ⟨dX3_ofState_67, dX3_ofState_70, dX3_ofState_73⟩⟩ (by decide) (by decide) (by decide) (PO.of (F := f_X3_ofState w.n c q) (x := .inr 1) (by unfold f_X3_ofState; rw [if_neg t_0, if_neg t_1, if_neg t_2, if_neg t_3, if_neg t_4]) hW hF)
