/-! THE LAW, 1: the calls that ask leave the store as it is -/
def PS (S : Sto) (c : CC) (F : Out × CC) : Out → Sto → Prop := fun o S1 => o = F.1 ∧ F.2 = c ∧ S1 = S
theorem PS.of {tm : Nat × Nat} {w : CAd} {S : Sto} {c : CC} {F : Out × CC} {x : Out} (e : F = (x, c)) (_ : CW tm S w c) (_ : FrC S S) : PS S c F x S := by
  rw [e]; exact ⟨rfl, rfl, rfl⟩
set_option maxHeartbeats 4000000 in
theorem r_X3_value {tm : Nat × Nat} {S : Sto} {w : CAd} {c : CC} {k r : Int32} (hW : CW tm S w c)  : Ev tm M_X3_value [.ref w.th, .int k, .int r] S (PS S c (f_X3_value w.n c k r)) := by
  have hF : FrC S S := FrC.rf
  refine ev_in ok_X3_value (Nat.le_of_ble_eq_true rfl) ?_
  have hn40 := hW.n40
  refine s_aloadn dX3_value_0 rfl rfl ?_
  refine s_iloadn dX3_value_1 rfl rfl ?_
  by_cases r_2 : inr k w.n
  · refine s_cv1R (n := 12) dX3_value_2 rfl (kv hW.th (by decide) rfl) rfl (by decide) (by decide) (by decide) (by decide) (Nat.le_of_ble_eq_true rfl) (m_claimAt_ok hW r_2) ?_
    refine s_astoren dX3_value_5 rfl (by decide) ?_
    refine s_iloadn dX3_value_6 rfl rfl ?_
    refine s_iconst (v := 0) dX3_value_7 (by decide) ?_
    refine s_sipush (v := 1500) dX3_value_8 (by decide) ?_
    by_cases r_11 : rng r 0 1500
    · refine s_cs3V (n := 11) dX3_value_11 rfl rfl (by decide) (by decide) (by decide) (by decide) (Nat.le_of_ble_eq_true rfl) (m_needRange_ok r_11) ?_
      refine s_aloadn dX3_value_14 rfl rfl ?_
      refine s_aloadn dX3_value_15 rfl rfl ?_
      refine s_get (v := .int (c.ti 3)) (n := 7) dX3_value_16 rfl hW.th (congrArg Value.int (congrFun hW.ti 3)) ?_
      refine s_iloadn dX3_value_19 rfl rfl ?_
      refine s_cv2R (n := 28) dX3_value_20 rfl (kv (hW.cK _ (Nat.lt_of_lt_of_le (inr_lt r_2 hW.n40) hW.nm)) (by decide) rfl) rfl (by decide) (by decide) (by decide) (by decide) (Nat.le_of_ble_eq_true rfl) (m_X0_worth hW (Nat.lt_of_lt_of_le (inr_lt r_2 hW.n40) hW.nm)) ?_
      exact s_retl dX3_value_23 rfl (PS.of (F := f_X3_value w.n c k r) (by unfold f_X3_value; rw [if_pos r_2, if_pos r_11]) hW hF)
    · exact s_cs3T (n := 11) dX3_value_11 rfl rfl (by decide) (by decide) (by decide) (by decide) (Nat.le_of_ble_eq_true rfl) (m_needRange_no r_11) rfl (PS.of (F := f_X3_value w.n c k r) (x := .inr 1) (by unfold f_X3_value; rw [if_pos r_2, if_neg r_11]) hW hF)
  · exact s_cv1T (n := 12) dX3_value_2 rfl (kv hW.th (by decide) rfl) rfl (by decide) (by decide) (by decide) (by decide) (Nat.le_of_ble_eq_true rfl) (m_claimAt_no hW r_2) rfl (PS.of (F := f_X3_value w.n c k r) (x := .inr 3) (by unfold f_X3_value; rw [if_neg r_2]) hW hF)
set_option maxHeartbeats 4000000 in
theorem r_X3_offered {tm : Nat × Nat} {S : Sto} {w : CAd} {c : CC} {k o r : Int32} (hW : CW tm S w c)  : Ev tm M_X3_offered [.ref w.th, .int k, .int o, .int r] S (PS S c (f_X3_offered w.n w.no c k o r)) := by
  have hF : FrC S S := FrC.rf
  refine ev_in ok_X3_offered (Nat.le_of_ble_eq_true rfl) ?_
  have hn40 := hW.n40
  refine s_aloadn dX3_offered_0 rfl rfl ?_
  refine s_iloadn dX3_offered_1 rfl rfl ?_
  by_cases r_2 : inr k w.n
  · refine s_cv1R (n := 12) dX3_offered_2 rfl (kv hW.th (by decide) rfl) rfl (by decide) (by decide) (by decide) (by decide) (Nat.le_of_ble_eq_true rfl) (m_claimAt_ok hW r_2) ?_
    refine s_astore dX3_offered_5 (by decide) ?_
    refine s_aloadn dX3_offered_7 rfl rfl ?_
    refine s_iloadn dX3_offered_8 rfl rfl ?_
    by_cases r_9 : inr o w.no
    · refine s_cv1R (n := 29) dX3_offered_9 rfl (kv hW.th (by decide) rfl) rfl (by decide) (by decide) (by decide) (by decide) (Nat.le_of_ble_eq_true rfl) (m_offerAt_ok hW r_9) ?_
      refine s_astore dX3_offered_12 (by decide) ?_
      refine s_iloadn dX3_offered_14 rfl rfl ?_
      refine s_iconst (v := 0) dX3_offered_15 (by decide) ?_
      refine s_sipush (v := 1500) dX3_offered_16 (by decide) ?_
      by_cases r_19 : rng r 0 1500
      · refine s_cs3V (n := 11) dX3_offered_19 rfl rfl (by decide) (by decide) (by decide) (by decide) (Nat.le_of_ble_eq_true rfl) (m_needRange_ok r_19) ?_
        refine s_aload dX3_offered_22 rfl ?_
        refine s_cv0R (n := 13) dX3_offered_24 rfl (kv (hW.cK _ (Nat.lt_of_lt_of_le (inr_lt r_2 hW.n40) hW.nm)) (by decide) rfl) rfl (by decide) (by decide) (by decide) (by decide) (Nat.le_of_ble_eq_true rfl) (mi_X0_isOpen hW (Nat.lt_of_lt_of_le (inr_lt r_2 hW.n40) hW.nm)) ?_
        refine s_ifeq (tgt := 54) dX3_offered_27 (by decide) (fun c_27 => ?_) (fun c_27 => ?_)
        · skip
          refine s_lconst (v := 0) dX3_offered_54 (by decide) ?_
          exact s_retl dX3_offered_55 rfl (PS.of (F := f_X3_offered w.n w.no c k o r) (by unfold f_X3_offered; rw [if_pos r_2, if_pos r_9, if_pos r_19, if_pos c_27]) hW hF)
        · skip
          refine s_aload dX3_offered_30 rfl ?_
          refine s_aload dX3_offered_32 rfl ?_
          refine s_cv1R (n := 27) dX3_offered_34 rfl (kv (hW.oK (inr_lt r_9 (Nat.le_trans hW.n12 (by decide)))) (by decide) rfl) rfl (by decide) (by decide) (by decide) (by decide) (Nat.le_of_ble_eq_true rfl) (mi_X1_principalFor hW (inr_lt r_9 (Nat.le_trans hW.n12 (by decide))) (Nat.lt_of_lt_of_le (inr_lt r_2 hW.n40) hW.nm)) ?_
          refine s_aload dX3_offered_37 rfl ?_
          refine s_get (v := .int (c.oi (ix o) 1)) (n := 53) dX3_offered_39 rfl (hW.oK (inr_lt r_9 (Nat.le_trans hW.n12 (by decide)))) (congrArg Value.int (congrFun (hW.oi _ (inr_lt r_9 (Nat.le_trans hW.n12 (by decide)))) 1)) ?_
          refine s_aload dX3_offered_42 rfl ?_
          refine s_get (v := .int (c.oi (ix o) 2)) (n := 55) dX3_offered_44 rfl (hW.oK (inr_lt r_9 (Nat.le_trans hW.n12 (by decide)))) (congrArg Value.int (congrFun (hW.oi _ (inr_lt r_9 (Nat.le_trans hW.n12 (by decide)))) 2)) ?_
          refine s_iloadn dX3_offered_47 rfl rfl ?_
          refine s_cs4R (n := 20) dX3_offered_48 rfl rfl (by decide) (by decide) (by decide) (by decide) (Nat.le_of_ble_eq_true rfl) (m_X3_discounted hW) ?_
          refine s_goto (tgt := 55) dX3_offered_51 (by decide) ?_
          exact s_retl dX3_offered_55 rfl (PS.of (F := f_X3_offered w.n w.no c k o r) (by unfold f_X3_offered; rw [if_pos r_2, if_pos r_9, if_pos r_19, if_neg c_27]) hW hF)
      · exact s_cs3T (n := 11) dX3_offered_19 rfl rfl (by decide) (by decide) (by decide) (by decide) (Nat.le_of_ble_eq_true rfl) (m_needRange_no r_19) rfl (PS.of (F := f_X3_offered w.n w.no c k o r) (x := .inr 1) (by unfold f_X3_offered; rw [if_pos r_2, if_pos r_9, if_neg r_19]) hW hF)
    · exact s_cv1T (n := 29) dX3_offered_9 rfl (kv hW.th (by decide) rfl) rfl (by decide) (by decide) (by decide) (by decide) (Nat.le_of_ble_eq_true rfl) (m_offerAt_no hW r_9) rfl (PS.of (F := f_X3_offered w.n w.no c k o r) (x := .inr 3) (by unfold f_X3_offered; rw [if_pos r_2, if_neg r_9]) hW hF)
  · exact s_cv1T (n := 12) dX3_offered_2 rfl (kv hW.th (by decide) rfl) rfl (by decide) (by decide) (by decide) (by decide) (Nat.le_of_ble_eq_true rfl) (m_claimAt_no hW r_2) rfl (PS.of (F := f_X3_offered w.n w.no c k o r) (x := .inr 3) (by unfold f_X3_offered; rw [if_neg r_2]) hW hF)
set_option maxHeartbeats 4000000 in
theorem r_X3_effort {tm : Nat × Nat} {S : Sto} {w : CAd} {c : CC} {k : Int32} (hW : CW tm S w c)  : Ev tm M_X3_effort [.ref w.th, .int k] S (PS S c (f_X3_effort w.n c k)) := by
  have hF : FrC S S := FrC.rf
  refine ev_in ok_X3_effort (Nat.le_of_ble_eq_true rfl) ?_
  have hn40 := hW.n40
  refine s_iloadn dX3_effort_0 rfl rfl ?_
  by_cases r_1 : inr k 5
  · refine s_cs1V (n := 14) dX3_effort_1 rfl rfl (by decide) (by decide) (by decide) (by decide) (Nat.le_of_ble_eq_true rfl) (m_needKind_ok r_1) ?_
    refine s_aloadn dX3_effort_4 rfl rfl ?_
    refine s_iloadn dX3_effort_5 rfl rfl ?_
    refine s_cv1R (n := 46) dX3_effort_6 rfl (kv hW.th (by decide) rfl) rfl (by decide) (by decide) (by decide) (by decide) (Nat.le_of_ble_eq_true rfl) (m_X3_effortOf hW ) ?_
    exact s_reti dX3_effort_9 rfl rfl (PS.of (F := f_X3_effort w.n c k) (by unfold f_X3_effort; rw [if_pos r_1]) hW hF)
  · exact s_cs1T (n := 14) dX3_effort_1 rfl rfl (by decide) (by decide) (by decide) (by decide) (Nat.le_of_ble_eq_true rfl) (m_needKind_no r_1) rfl (PS.of (F := f_X3_effort w.n c k) (x := .inr 3) (by unfold f_X3_effort; rw [if_neg r_1]) hW hF)
set_option maxHeartbeats 4000000 in
theorem r_X3_passes {tm : Nat × Nat} {S : Sto} {w : CAd} {c : CC} {o s : Int32} (hW : CW tm S w c)  : Ev tm M_X3_passes [.ref w.th, .int o, .int s] S (PS S c (f_X3_passes w.n w.no c o s)) := by
  have hF : FrC S S := FrC.rf
  refine ev_in ok_X3_passes (Nat.le_of_ble_eq_true rfl) ?_
  have hn40 := hW.n40
  refine s_aloadn dX3_passes_0 rfl rfl ?_
  refine s_iloadn dX3_passes_1 rfl rfl ?_
  by_cases r_2 : inr o w.no
  · refine s_cv1R (n := 29) dX3_passes_2 rfl (kv hW.th (by decide) rfl) rfl (by decide) (by decide) (by decide) (by decide) (Nat.le_of_ble_eq_true rfl) (m_offerAt_ok hW r_2) ?_
    refine s_astoren dX3_passes_5 rfl (by decide) ?_
    refine s_iloadn dX3_passes_6 rfl rfl ?_
    refine s_iconst (v := (-1)) dX3_passes_7 (by decide) ?_
    refine s_iceq (tgt := 31) dX3_passes_8 (by decide) (fun c_8 => ?_) (fun c_8 => ?_)
    · skip
      refine s_iloadn dX3_passes_31 rfl rfl ?_
      refine s_iconst (v := (-1)) dX3_passes_32 (by decide) ?_
      refine s_icne (tgt := 44) dX3_passes_33 (by decide) (fun c_33 => ?_) (fun c_33 => ?_)
      · skip
        refine s_aloadn dX3_passes_44 rfl rfl ?_
        refine s_aloadn dX3_passes_45 rfl rfl ?_
        refine s_iloadn dX3_passes_46 rfl rfl ?_
        refine s_bipush (v := 75) dX3_passes_47 (by decide) ?_
        refine s_cv3R (n := 36) dX3_passes_49 rfl (kv hW.th (by decide) rfl) rfl (by decide) (by decide) (by decide) (by decide) (Nat.le_of_ble_eq_true rfl) (m_X3_hasMajority hW (inr_lt r_2 (Nat.le_trans hW.n12 (by decide)))) ?_
        exact s_reti dX3_passes_52 rfl (nr_bool b_X3_hasMajority) (PS.of (F := f_X3_passes w.n w.no c o s) (by unfold f_X3_passes; rw [if_pos r_2, if_pos c_8, if_neg c_33]) hW hF)
      · skip
        refine s_aloadn dX3_passes_36 rfl rfl ?_
        refine s_aloadn dX3_passes_37 rfl rfl ?_
        refine s_cv1R (n := 37) dX3_passes_38 rfl (kv hW.th (by decide) rfl) rfl (by decide) (by decide) (by decide) (by decide) (Nat.le_of_ble_eq_true rfl) (m_X3_arePooled hW (inr_lt r_2 (Nat.le_trans hW.n12 (by decide)))) ?_
        refine s_goto (tgt := 52) dX3_passes_41 (by decide) ?_
        exact s_reti dX3_passes_52 rfl (nr_bool b_X3_arePooled) (PS.of (F := f_X3_passes w.n w.no c o s) (by unfold f_X3_passes; rw [if_pos r_2, if_pos c_8, if_pos c_33]) hW hF)
    · skip
      refine s_iloadn dX3_passes_11 rfl rfl ?_
      refine s_iflt (tgt := 20) dX3_passes_12 (by decide) (fun c_12 => ?_) (fun c_12 => ?_)
      · skip
        exact s_thr (x := 3) ⟨rfl, rfl, by decide, by decide, 311, 315, 347, _, by decide, List.mem_of_getElem? (i := 17) rfl, dX3_passes_20, dX3_passes_23, Or.inr ⟨dX3_passes_24, dX3_passes_27, dX3_passes_30⟩⟩ (by decide) (by decide) (by decide) (PS.of (F := f_X3_passes w.n w.no c o s) (x := .inr 3) (by unfold f_X3_passes; rw [if_pos r_2, if_neg c_8, if_pos c_12]) hW hF)
      · skip
        refine s_iloadn dX3_passes_15 rfl rfl ?_
        refine s_iconst (v := 3) dX3_passes_16 (by decide) ?_
        refine s_icle (tgt := 31) dX3_passes_17 (by decide) (fun c_17 => ?_) (fun c_17 => ?_)
        · skip
          refine s_iloadn dX3_passes_31 rfl rfl ?_
          refine s_iconst (v := (-1)) dX3_passes_32 (by decide) ?_
          refine s_icne (tgt := 44) dX3_passes_33 (by decide) (fun c_33 => ?_) (fun c_33 => ?_)
          · skip
            refine s_aloadn dX3_passes_44 rfl rfl ?_
            refine s_aloadn dX3_passes_45 rfl rfl ?_
            refine s_iloadn dX3_passes_46 rfl rfl ?_
            refine s_bipush (v := 75) dX3_passes_47 (by decide) ?_
            refine s_cv3R (n := 36) dX3_passes_49 rfl (kv hW.th (by decide) rfl) rfl (by decide) (by decide) (by decide) (by decide) (Nat.le_of_ble_eq_true rfl) (m_X3_hasMajority hW (inr_lt r_2 (Nat.le_trans hW.n12 (by decide)))) ?_
            exact s_reti dX3_passes_52 rfl (nr_bool b_X3_hasMajority) (PS.of (F := f_X3_passes w.n w.no c o s) (by unfold f_X3_passes; rw [if_pos r_2, if_neg c_8, if_neg c_12, if_pos c_17, if_neg c_33]) hW hF)
          · skip
            refine s_aloadn dX3_passes_36 rfl rfl ?_
            refine s_aloadn dX3_passes_37 rfl rfl ?_
            refine s_cv1R (n := 37) dX3_passes_38 rfl (kv hW.th (by decide) rfl) rfl (by decide) (by decide) (by decide) (by decide) (Nat.le_of_ble_eq_true rfl) (m_X3_arePooled hW (inr_lt r_2 (Nat.le_trans hW.n12 (by decide)))) ?_
            refine s_goto (tgt := 52) dX3_passes_41 (by decide) ?_
            exact s_reti dX3_passes_52 rfl (nr_bool b_X3_arePooled) (PS.of (F := f_X3_passes w.n w.no c o s) (by unfold f_X3_passes; rw [if_pos r_2, if_neg c_8, if_neg c_12, if_pos c_17, if_pos c_33]) hW hF)
        · skip
          exact s_thr (x := 3) ⟨rfl, rfl, by decide, by decide, 311, 315, 347, _, by decide, List.mem_of_getElem? (i := 17) rfl, dX3_passes_20, dX3_passes_23, Or.inr ⟨dX3_passes_24, dX3_passes_27, dX3_passes_30⟩⟩ (by decide) (by decide) (by decide) (PS.of (F := f_X3_passes w.n w.no c o s) (x := .inr 3) (by unfold f_X3_passes; rw [if_pos r_2, if_neg c_8, if_neg c_12, if_neg c_17]) hW hF)
  · exact s_cv1T (n := 29) dX3_passes_2 rfl (kv hW.th (by decide) rfl) rfl (by decide) (by decide) (by decide) (by decide) (Nat.le_of_ble_eq_true rfl) (m_offerAt_no hW r_2) rfl (PS.of (F := f_X3_passes w.n w.no c o s) (x := .inr 3) (by unfold f_X3_passes; rw [if_neg r_2]) hW hF)
set_option maxHeartbeats 4000000 in
theorem r_X3_ofClaim {tm : Nat × Nat} {S : Sto} {w : CAd} {c : CC} {k q : Int32} (hW : CW tm S w c)  : Ev tm M_X3_ofClaim [.ref w.th, .int k, .int q] S (PS S c (f_X3_ofClaim w.n c k q)) := by
  have hF : FrC S S := FrC.rf
  refine ev_in ok_X3_ofClaim (Nat.le_of_ble_eq_true rfl) ?_
  have hn40 := hW.n40
  refine s_aloadn dX3_ofClaim_0 rfl rfl ?_
  refine s_iloadn dX3_ofClaim_1 rfl rfl ?_
  by_cases r_2 : inr k w.n
  · refine s_cv1R (n := 12) dX3_ofClaim_2 rfl (kv hW.th (by decide) rfl) rfl (by decide) (by decide) (by decide) (by decide) (Nat.le_of_ble_eq_true rfl) (m_claimAt_ok hW r_2) ?_
    refine s_astoren dX3_ofClaim_5 rfl (by decide) ?_
    refine s_iloadn dX3_ofClaim_6 rfl rfl ?_
    by_cases t_0 : q = 0
    · refine s_swin (off := 45) (tgt := 52) dX3_ofClaim_7 (by rw [t_0]; decide) (by rw [t_0]; decide) (by rw [t_0]; rfl) (by decide) ?_
      refine s_aloadn dX3_ofClaim_52 rfl rfl ?_
      refine s_get (v := .int (c.ci (ix k) 8)) (n := 34) dX3_ofClaim_53 rfl (hW.cK _ (Nat.lt_of_lt_of_le (inr_lt r_2 hW.n40) hW.nm)) (congrArg Value.int (congrFun (hW.ci _ (Nat.lt_of_lt_of_le (inr_lt r_2 hW.n40) hW.nm)) 8)) ?_
      refine s_i2l dX3_ofClaim_56 ?_
      exact s_retl dX3_ofClaim_57 rfl (PS.of (F := f_X3_ofClaim w.n c k q) (by unfold f_X3_ofClaim; rw [if_pos r_2, if_pos t_0]) hW hF)
    · skip
      by_cases t_1 : q = 1
      · refine s_swin (off := 51) (tgt := 58) dX3_ofClaim_7 (by rw [t_1]; decide) (by rw [t_1]; decide) (by rw [t_1]; rfl) (by decide) ?_
        refine s_aloadn dX3_ofClaim_58 rfl rfl ?_
        refine s_get (v := .long (c.cj (ix k) 5)) (n := 29) dX3_ofClaim_59 rfl (hW.cK _ (Nat.lt_of_lt_of_le (inr_lt r_2 hW.n40) hW.nm)) (congrArg Value.long (congrFun (hW.cj _ (Nat.lt_of_lt_of_le (inr_lt r_2 hW.n40) hW.nm)) 5)) ?_
        exact s_retl dX3_ofClaim_62 rfl (PS.of (F := f_X3_ofClaim w.n c k q) (by unfold f_X3_ofClaim; rw [if_pos r_2, if_neg t_0, if_pos t_1]) hW hF)
      · skip
        by_cases t_2 : q = 2
        · refine s_swin (off := 56) (tgt := 63) dX3_ofClaim_7 (by rw [t_2]; decide) (by rw [t_2]; decide) (by rw [t_2]; rfl) (by decide) ?_
          refine s_aloadn dX3_ofClaim_63 rfl rfl ?_
          refine s_get (v := .long (c.cj (ix k) 9)) (n := 36) dX3_ofClaim_64 rfl (hW.cK _ (Nat.lt_of_lt_of_le (inr_lt r_2 hW.n40) hW.nm)) (congrArg Value.long (congrFun (hW.cj _ (Nat.lt_of_lt_of_le (inr_lt r_2 hW.n40) hW.nm)) 9)) ?_
          exact s_retl dX3_ofClaim_67 rfl (PS.of (F := f_X3_ofClaim w.n c k q) (by unfold f_X3_ofClaim; rw [if_pos r_2, if_neg t_0, if_neg t_1, if_pos t_2]) hW hF)
        · skip
          by_cases t_3 : q = 3
          · refine s_swin (off := 61) (tgt := 68) dX3_ofClaim_7 (by rw [t_3]; decide) (by rw [t_3]; decide) (by rw [t_3]; rfl) (by decide) ?_
            refine s_aloadn dX3_ofClaim_68 rfl rfl ?_
            refine s_get (v := .int (c.ci (ix k) 7)) (n := 32) dX3_ofClaim_69 rfl (hW.cK _ (Nat.lt_of_lt_of_le (inr_lt r_2 hW.n40) hW.nm)) (congrArg Value.int (congrFun (hW.ci _ (Nat.lt_of_lt_of_le (inr_lt r_2 hW.n40) hW.nm)) 7)) ?_
            refine s_i2l dX3_ofClaim_72 ?_
            exact s_retl dX3_ofClaim_73 rfl (PS.of (F := f_X3_ofClaim w.n c k q) (by unfold f_X3_ofClaim; rw [if_pos r_2, if_neg t_0, if_neg t_1, if_neg t_2, if_pos t_3]) hW hF)
          · skip
            by_cases t_4 : q = 4
            · refine s_swin (off := 67) (tgt := 74) dX3_ofClaim_7 (by rw [t_4]; decide) (by rw [t_4]; decide) (by rw [t_4]; rfl) (by decide) ?_
              refine s_aloadn dX3_ofClaim_74 rfl rfl ?_
              refine s_get (v := .long (c.cj (ix k) 15)) (n := 48) dX3_ofClaim_75 rfl (hW.cK _ (Nat.lt_of_lt_of_le (inr_lt r_2 hW.n40) hW.nm)) (congrArg Value.long (congrFun (hW.cj _ (Nat.lt_of_lt_of_le (inr_lt r_2 hW.n40) hW.nm)) 15)) ?_
              exact s_retl dX3_ofClaim_78 rfl (PS.of (F := f_X3_ofClaim w.n c k q) (by unfold f_X3_ofClaim; rw [if_pos r_2, if_neg t_0, if_neg t_1, if_neg t_2, if_neg t_3, if_pos t_4]) hW hF)
            · skip
              by_cases t_5 : q = 5
              · refine s_swin (off := 72) (tgt := 79) dX3_ofClaim_7 (by rw [t_5]; decide) (by rw [t_5]; decide) (by rw [t_5]; rfl) (by decide) ?_
                refine s_aloadn dX3_ofClaim_79 rfl rfl ?_
                refine s_get (v := .long (c.cj (ix k) 10)) (n := 38) dX3_ofClaim_80 rfl (hW.cK _ (Nat.lt_of_lt_of_le (inr_lt r_2 hW.n40) hW.nm)) (congrArg Value.long (congrFun (hW.cj _ (Nat.lt_of_lt_of_le (inr_lt r_2 hW.n40) hW.nm)) 10)) ?_
                exact s_retl dX3_ofClaim_83 rfl (PS.of (F := f_X3_ofClaim w.n c k q) (by unfold f_X3_ofClaim; rw [if_pos r_2, if_neg t_0, if_neg t_1, if_neg t_2, if_neg t_3, if_neg t_4, if_pos t_5]) hW hF)
              · skip
                by_cases t_6 : q = 6
                · refine s_swin (off := 77) (tgt := 84) dX3_ofClaim_7 (by rw [t_6]; decide) (by rw [t_6]; decide) (by rw [t_6]; rfl) (by decide) ?_
                  refine s_aloadn dX3_ofClaim_84 rfl rfl ?_
                  refine s_get (v := .int (c.ci (ix k) 11)) (n := 40) dX3_ofClaim_85 rfl (hW.cK _ (Nat.lt_of_lt_of_le (inr_lt r_2 hW.n40) hW.nm)) (congrArg Value.int (congrFun (hW.ci _ (Nat.lt_of_lt_of_le (inr_lt r_2 hW.n40) hW.nm)) 11)) ?_
                  refine s_i2l dX3_ofClaim_88 ?_
                  exact s_retl dX3_ofClaim_89 rfl (PS.of (F := f_X3_ofClaim w.n c k q) (by unfold f_X3_ofClaim; rw [if_pos r_2, if_neg t_0, if_neg t_1, if_neg t_2, if_neg t_3, if_neg t_4, if_neg t_5, if_pos t_6]) hW hF)
                · skip
                  by_cases t_7 : q = 7
                  · refine s_swin (off := 83) (tgt := 90) dX3_ofClaim_7 (by rw [t_7]; decide) (by rw [t_7]; decide) (by rw [t_7]; rfl) (by decide) ?_
                    refine s_aloadn dX3_ofClaim_90 rfl rfl ?_
                    refine s_get (v := .int (c.ci (ix k) 12)) (n := 42) dX3_ofClaim_91 rfl (hW.cK _ (Nat.lt_of_lt_of_le (inr_lt r_2 hW.n40) hW.nm)) (congrArg Value.int (congrFun (hW.ci _ (Nat.lt_of_lt_of_le (inr_lt r_2 hW.n40) hW.nm)) 12)) ?_
                    refine s_i2l dX3_ofClaim_94 ?_
                    exact s_retl dX3_ofClaim_95 rfl (PS.of (F := f_X3_ofClaim w.n c k q) (by unfold f_X3_ofClaim; rw [if_pos r_2, if_neg t_0, if_neg t_1, if_neg t_2, if_neg t_3, if_neg t_4, if_neg t_5, if_neg t_6, if_pos t_7]) hW hF)
                  · skip
                    refine s_swout (tgt := 96) dX3_ofClaim_7 (sw7 (⟨t_0, t_1, t_2, t_3, t_4, t_5, t_6, t_7⟩)) (by decide) ?_
                    exact s_thr (x := 1) ⟨rfl, rfl, by decide, by decide, 363, 367, 365, _, by decide, List.mem_of_getElem? (i := 18) rfl, dX3_ofClaim_96, dX3_ofClaim_99, Or.inr ⟨dX3_ofClaim_100, dX3_ofClaim_103, dX3_ofClaim_106⟩⟩ (by decide) (by decide) (by decide) (PS.of (F := f_X3_ofClaim w.n c k q) (x := .inr 1) (by unfold f_X3_ofClaim; rw [if_pos r_2, if_neg t_0, if_neg t_1, if_neg t_2, if_neg t_3, if_neg t_4, if_neg t_5, if_neg t_6, if_neg t_7]) hW hF)
  · exact s_cv1T (n := 12) dX3_ofClaim_2 rfl (kv hW.th (by decide) rfl) rfl (by decide) (by decide) (by decide) (by decide) (Nat.le_of_ble_eq_true rfl) (m_claimAt_no hW r_2) rfl (PS.of (F := f_X3_ofClaim w.n c k q) (x := .inr 3) (by unfold f_X3_ofClaim; rw [if_neg r_2]) hW hF)
set_option maxHeartbeats 4000000 in
theorem r_X3_paidAnew {tm : Nat × Nat} {S : Sto} {w : CAd} {c : CC} {k : Int32} (hW : CW tm S w c)  : Ev tm M_X3_paidAnew [.ref w.th, .int k] S (PS S c (f_X3_paidAnew w.n c k)) := by
  have hF : FrC S S := FrC.rf
  refine ev_in ok_X3_paidAnew (Nat.le_of_ble_eq_true rfl) ?_
  have hn40 := hW.n40
  refine s_aloadn dX3_paidAnew_0 rfl rfl ?_
  refine s_iloadn dX3_paidAnew_1 rfl rfl ?_
  by_cases r_2 : inr k w.n
  · refine s_cv1R (n := 12) dX3_paidAnew_2 rfl (kv hW.th (by decide) rfl) rfl (by decide) (by decide) (by decide) (by decide) (Nat.le_of_ble_eq_true rfl) (m_claimAt_ok hW r_2) ?_
    refine s_cv0R (n := 48) dX3_paidAnew_5 rfl (kv (hW.cK _ (Nat.lt_of_lt_of_le (inr_lt r_2 hW.n40) hW.nm)) (by decide) rfl) rfl (by decide) (by decide) (by decide) (by decide) (Nat.le_of_ble_eq_true rfl) (m_X0_paymentsAdded hW (Nat.lt_of_lt_of_le (inr_lt r_2 hW.n40) hW.nm)) ?_
    exact s_retl dX3_paidAnew_8 rfl (PS.of (F := f_X3_paidAnew w.n c k) (by unfold f_X3_paidAnew; rw [if_pos r_2]) hW hF)
  · exact s_cv1T (n := 12) dX3_paidAnew_2 rfl (kv hW.th (by decide) rfl) rfl (by decide) (by decide) (by decide) (by decide) (Nat.le_of_ble_eq_true rfl) (m_claimAt_no hW r_2) rfl (PS.of (F := f_X3_paidAnew w.n c k) (x := .inr 3) (by unfold f_X3_paidAnew; rw [if_neg r_2]) hW hF)
set_option maxHeartbeats 4000000 in
theorem r_X3_ofState {tm : Nat × Nat} {S : Sto} {w : CAd} {c : CC} {q : Int32} (hW : CW tm S w c)  : Ev tm M_X3_ofState [.ref w.th, .int q] S (PS S c (f_X3_ofState w.n c q)) := by
  have hF : FrC S S := FrC.rf
  refine ev_in ok_X3_ofState (Nat.le_of_ble_eq_true rfl) ?_
  have hn40 := hW.n40
  refine s_iloadn dX3_ofState_0 rfl rfl ?_
  by_cases t_0 : q = 0
  · refine s_swin (off := 35) (tgt := 36) dX3_ofState_1 (by rw [t_0]; decide) (by rw [t_0]; decide) (by rw [t_0]; rfl) (by decide) ?_
    refine s_aloadn dX3_ofState_36 rfl rfl ?_
    refine s_get (v := .int (c.ti 3)) (n := 7) dX3_ofState_37 rfl hW.th (congrArg Value.int (congrFun hW.ti 3)) ?_
    refine s_i2l dX3_ofState_40 ?_
    exact s_retl dX3_ofState_41 rfl (PS.of (F := f_X3_ofState w.n c q) (by unfold f_X3_ofState; rw [if_pos t_0]) hW hF)
  · skip
    by_cases t_1 : q = 1
    · refine s_swin (off := 41) (tgt := 42) dX3_ofState_1 (by rw [t_1]; decide) (by rw [t_1]; decide) (by rw [t_1]; rfl) (by decide) ?_
      refine s_aloadn dX3_ofState_42 rfl rfl ?_
      refine s_get (v := .long (c.tj 4)) (n := 8) dX3_ofState_43 rfl hW.th (congrArg Value.long (congrFun hW.tj 4)) ?_
      exact s_retl dX3_ofState_46 rfl (PS.of (F := f_X3_ofState w.n c q) (by unfold f_X3_ofState; rw [if_neg t_0, if_pos t_1]) hW hF)
    · skip
      by_cases t_2 : q = 2
      · refine s_swin (off := 46) (tgt := 47) dX3_ofState_1 (by rw [t_2]; decide) (by rw [t_2]; decide) (by rw [t_2]; rfl) (by decide) ?_
        refine s_aloadn dX3_ofState_47 rfl rfl ?_
        refine s_get (v := .long (c.tj 5)) (n := 9) dX3_ofState_48 rfl hW.th (congrArg Value.long (congrFun hW.tj 5)) ?_
        exact s_retl dX3_ofState_51 rfl (PS.of (F := f_X3_ofState w.n c q) (by unfold f_X3_ofState; rw [if_neg t_0, if_neg t_1, if_pos t_2]) hW hF)
      · skip
        by_cases t_3 : q = 3
        · refine s_swin (off := 51) (tgt := 52) dX3_ofState_1 (by rw [t_3]; decide) (by rw [t_3]; decide) (by rw [t_3]; rfl) (by decide) ?_
          refine s_aloadn dX3_ofState_52 rfl rfl ?_
          refine s_cv0R (n := 16) dX3_ofState_53 rfl (kv hW.th (by decide) rfl) rfl (by decide) (by decide) (by decide) (by decide) (Nat.le_of_ble_eq_true rfl) (m_X3_debt hW ) ?_
          exact s_retl dX3_ofState_56 rfl (PS.of (F := f_X3_ofState w.n c q) (by unfold f_X3_ofState; rw [if_neg t_0, if_neg t_1, if_neg t_2, if_pos t_3]) hW hF)
        · skip
          by_cases t_4 : q = 4
          · refine s_swin (off := 56) (tgt := 57) dX3_ofState_1 (by rw [t_4]; decide) (by rw [t_4]; decide) (by rw [t_4]; rfl) (by decide) ?_
            refine s_aloadn dX3_ofState_57 rfl rfl ?_
            refine s_get (v := .int (c.ti 13)) (n := 17) dX3_ofState_58 rfl hW.th (congrArg Value.int (congrFun hW.ti 13)) ?_
            refine s_i2l dX3_ofState_61 ?_
            exact s_retl dX3_ofState_62 rfl (PS.of (F := f_X3_ofState w.n c q) (by unfold f_X3_ofState; rw [if_neg t_0, if_neg t_1, if_neg t_2, if_neg t_3, if_pos t_4]) hW hF)
          · skip
            refine s_swout (tgt := 63) dX3_ofState_1 (sw4 (⟨t_0, t_1, t_2, t_3, t_4⟩)) (by decide) ?_
            exact s_thr (x := 1) ⟨rfl, rfl, by decide, by decide, 363, 367, 371, _, by decide, List.mem_of_getElem? (i := 19) rfl, dX3_ofState_63, dX3_ofState_66, Or.inr ⟨dX3_ofState_67, dX3_ofState_70, dX3_ofState_73⟩⟩ (by decide) (by decide) (by decide) (PS.of (F := f_X3_ofState w.n c q) (x := .inr 1) (by unfold f_X3_ofState; rw [if_neg t_0, if_neg t_1, if_neg t_2, if_neg t_3, if_neg t_4]) hW hF)

/-! THE PROGRAM, 13: isBearable, the constructor, settle -/
set_option maxHeartbeats 4000000 in
theorem r_X3_isBearable {tm : Nat × Nat} {S : Sto} {w : CAd} {c : CC} {ys : Int32} (hW : CW tm S w c) : Ev tm M_X3_isBearable [.ref w.th, .int ys] S (PS S c (f_X3_isBearable w.n c ys)) := by
  have hF : FrC S S := FrC.rf
  have hn40 := hW.n40
  refine ev_in ok_X3_isBearable (Nat.le_of_ble_eq_true rfl) ?_
  refine s_iloadn dX3_isBearable_0 rfl rfl ?_
  refine s_iconst (v := 1) dX3_isBearable_1 (by decide) ?_
  refine s_bipush (v := 30) dX3_isBearable_2 (by decide) ?_
  by_cases r_4 : rng ys 1 30
  · refine s_cs3V (n := 11) dX3_isBearable_4 rfl rfl (by decide) (by decide) (by decide) (by decide) (Nat.le_of_ble_eq_true rfl) (m_needRange_ok r_4) ?_
    refine s_aloadn dX3_isBearable_7 rfl rfl ?_
    refine s_cv0R (n := 16) dX3_isBearable_8 rfl (kv hW.th (by decide) rfl) rfl (by decide) (by decide) (by decide) (by decide) (Nat.le_of_ble_eq_true rfl) (m_X3_debt hW ) ?_
    refine s_lstoren dX3_isBearable_11 rfl (by decide) ?_
    refine s_aloadn dX3_isBearable_12 rfl rfl ?_
    refine s_get (v := .long (c.tj 5)) (n := 9) dX3_isBearable_13 rfl hW.th (congrArg Value.long (congrFun hW.tj 5)) ?_
    refine s_lstore dX3_isBearable_16 (by decide) ?_
    refine s_iconst (v := 0) dX3_isBearable_18 (by decide) ?_
    refine s_istore dX3_isBearable_19 (by decide) ?_
    have LP : ∀ (d k : Nat) (o m : Int64), k + d = ix ys → e_X3_isBearable w.n c d o m = e_X3_isBearable w.n c (ix ys) (f_X3_debt w.n c) (c.tj 5) → Wp (Ev tm) tm M_X3_isBearable (PS S c (f_X3_isBearable w.n c ys)) 21 [(0, .ref w.th), (1, .int ys), (2, .long o), (4, .long m), (6, .int (nI k))] [] 0 0 S := by
      intro d
      induction d with
      | zero =>
        intro k o m hkd he
        have hkn : k = ix ys := by omega
        subst hkn
        refine s_iload dX3_isBearable_21 rfl ?_
        refine s_iloadn dX3_isBearable_23 rfl rfl ?_
        refine s_icge (tgt := 89) dX3_isBearable_24 (by decide) (fun _ => ?_) (fun c => absurd (ixz r_4) c)
        refine s_lloadn dX3_isBearable_89 rfl rfl ?_
        refine s_lload dX3_isBearable_90 rfl ?_
        refine s_cs2R (n := 22) dX3_isBearable_92 rfl rfl (by decide) (by decide) (by decide) (by decide) (Nat.le_of_ble_eq_true rfl) (m_X3_burden) ?_
        refine s_aloadn dX3_isBearable_95 rfl rfl ?_
        refine s_cv0R (n := 16) dX3_isBearable_96 rfl (kv hW.th (by decide) rfl) rfl (by decide) (by decide) (by decide) (by decide) (Nat.le_of_ble_eq_true rfl) (m_X3_debt hW ) ?_
        refine s_aloadn dX3_isBearable_99 rfl rfl ?_
        refine s_get (v := .long (c.tj 5)) (n := 9) dX3_isBearable_100 rfl hW.th (congrArg Value.long (congrFun hW.tj 5)) ?_
        refine s_cs2R (n := 22) dX3_isBearable_103 rfl rfl (by decide) (by decide) (by decide) (by decide) (Nat.le_of_ble_eq_true rfl) (m_X3_burden) ?_
        refine s_lcgt (tgt := 114) dX3_isBearable_106 dX3_isBearable_107 (by decide) (fun c_106 => ?_) (fun c_106 => ?_)
        · skip
          refine s_iconst (v := 0) dX3_isBearable_114 (by decide) ?_
          exact s_reti dX3_isBearable_115 rfl (nr_bool (by decide)) (PS.of (F := f_X3_isBearable w.n c ys) (x := .inl (some (.int 0))) (by unfold f_X3_isBearable; rw [if_pos r_4, ← he, e_X3_isBearable_0, if_pos c_106]) hW hF)
        · skip
          refine s_iconst (v := 1) dX3_isBearable_110 (by decide) ?_
          refine s_goto (tgt := 115) dX3_isBearable_111 (by decide) ?_
          exact s_reti dX3_isBearable_115 rfl (nr_bool (by decide)) (PS.of (F := f_X3_isBearable w.n c ys) (x := .inl (some (.int 1))) (by unfold f_X3_isBearable; rw [if_pos r_4, ← he, e_X3_isBearable_0, if_neg c_106]) hW hF)
      | succ d ih =>
        intro k o m hkd he
        have hlt : k < ix ys := by omega
        refine s_iload dX3_isBearable_21 rfl ?_
        refine s_iloadn dX3_isBearable_23 rfl rfl ?_
        refine s_icge (tgt := 89) dX3_isBearable_24 (by decide) (fun c => absurd c (ixm r_4 hlt)) (fun _ => ?_)
        refine s_lloadn dX3_isBearable_27 rfl rfl ?_
        refine s_aloadn dX3_isBearable_28 rfl rfl ?_
        refine s_get (v := .int (c.ti 8)) (n := 12) dX3_isBearable_29 rfl hW.th (congrArg Value.int (congrFun hW.ti 8)) ?_
        refine s_i2l dX3_isBearable_32 ?_
        refine s_lmul dX3_isBearable_33 ?_
        refine s_ldc2 (v := 10000) dX3_isBearable_34 csl_RX3_146 ?_
        refine s_cs2R (n := 1) dX3_isBearable_37 rfl rfl (by decide) (by decide) (by decide) (by decide) (Nat.le_of_ble_eq_true rfl) (m_X3_quotient) ?_
        refine s_lstore dX3_isBearable_40 (by decide) ?_
        refine s_lloadn dX3_isBearable_42 rfl rfl ?_
        refine s_lload dX3_isBearable_43 rfl ?_
        refine s_ladd dX3_isBearable_45 ?_
        refine s_aloadn dX3_isBearable_46 rfl rfl ?_
        refine s_lload dX3_isBearable_47 rfl ?_
        refine s_cv1R (n := 22) dX3_isBearable_49 rfl (kv hW.th (by decide) rfl) rfl (by decide) (by decide) (by decide) (by decide) (Nat.le_of_ble_eq_true rfl) (m_X3_broughtBy hW ) ?_
        refine s_lsub dX3_isBearable_52 ?_
        refine s_lconst (v := 0) dX3_isBearable_53 (by decide) ?_
        refine s_cs2R (n := 21) dX3_isBearable_54 rfl rfl (by decide) (by decide) (by decide) (by decide) (Nat.le_of_ble_eq_true rfl) (m_J9_max_f86c9) ?_
        refine s_lstoren dX3_isBearable_57 rfl (by decide) ?_
        refine s_aloadn dX3_isBearable_58 rfl rfl ?_
        refine s_lload dX3_isBearable_59 rfl ?_
        refine s_cv1R (n := 23) dX3_isBearable_61 rfl (kv hW.th (by decide) rfl) rfl (by decide) (by decide) (by decide) (by decide) (Nat.le_of_ble_eq_true rfl) (m_X3_grown hW ) ?_
        refine s_lstore dX3_isBearable_64 (by decide) ?_
        refine s_lloadn dX3_isBearable_66 rfl rfl ?_
        refine s_ldc2 (v := 100) dX3_isBearable_67 csl_RX3_279 ?_
        refine s_lmul dX3_isBearable_70 ?_
        refine s_lload dX3_isBearable_71 rfl ?_
        refine s_ldc2 (v := 120) dX3_isBearable_73 csl_RX3_352 ?_
        refine s_lmul dX3_isBearable_76 ?_
        refine s_lcle (tgt := 83) dX3_isBearable_77 dX3_isBearable_78 (by decide) (fun c_77 => ?_) (fun c_77 => ?_)
        · skip
          refine s_iinc (v := (nI k) + 1) dX3_isBearable_83 rfl (by rfl) (by decide) ?_
          refine s_goto (tgt := 21) dX3_isBearable_86 (by decide) ?_
          exact s_sub (lo' := [(0, .ref w.th), (1, .int ys), (2, .long (f_J9_max_f86c9 ((o + (f_X3_quotient (o * (((c.ti 8) : Int32).toInt64)) 10000)) - (f_X3_broughtBy  c m)) 0)), (4, .long (f_X3_grown  c m)), (6, .int (nI (k + 1)))]) (List.forall_mem_cons.mpr ⟨rfl, List.forall_mem_cons.mpr ⟨rfl, List.forall_mem_cons.mpr ⟨rfl, List.forall_mem_cons.mpr ⟨rfl, List.forall_mem_cons.mpr ⟨congrArg (fun z => some (Value.int z)) (nI_1 k), fun _ h => absurd h List.not_mem_nil⟩⟩⟩⟩⟩) (Nat.zero_le _) (Nat.zero_le _) (ih (k + 1) _ _ (by omega) (by rw [← he, e_X3_isBearable_s, if_pos c_77]))
        · skip
          refine s_iconst (v := 0) dX3_isBearable_81 (by decide) ?_
          exact s_reti dX3_isBearable_82 rfl (nr_bool (by decide)) (PS.of (F := f_X3_isBearable w.n c ys) (x := .inl (some (.int 0))) (by unfold f_X3_isBearable; rw [if_pos r_4, ← he, e_X3_isBearable_s, if_neg c_77]) hW hF)
    exact s_sub (lo' := [(0, .ref w.th), (1, .int ys), (2, .long (f_X3_debt w.n c)), (4, .long (c.tj 5)), (6, .int (nI 0))]) (List.forall_mem_cons.mpr ⟨rfl, List.forall_mem_cons.mpr ⟨rfl, List.forall_mem_cons.mpr ⟨rfl, List.forall_mem_cons.mpr ⟨rfl, List.forall_mem_cons.mpr ⟨rfl, fun _ h => absurd h List.not_mem_nil⟩⟩⟩⟩⟩) (Nat.zero_le _) (Nat.zero_le _) (LP (ix ys) 0 _ _ (by omega) rfl)
  · exact s_cs3T (n := 11) dX3_isBearable_4 rfl rfl (by decide) (by decide) (by decide) (by decide) (Nat.le_of_ble_eq_true rfl) (m_needRange_no r_4) rfl (PS.of (F := f_X3_isBearable w.n c ys) (x := .inr 1) (by unfold f_X3_isBearable; rw [if_neg r_4]) hW hF)
