/-! THE PROGRAM, 12: the other public calls that add -/
theorem o_X3_swap {n : Nat} {c : CC} {i : Nat} {k : Int32} {j : Nat} : (f_X3_swap n c i k j).1 = .inl none := rfl
theorem n_X3_swap {n : Nat} {c : CC} {i : Nat} {k : Int32} {j : Nat} : (f_X3_swap n c i k j).2.1 = n + 1 := rfl
theorem o_X3_payTranche {n : Nat} {c : CC} : (f_X3_payTranche n c).1 = .inl none := rfl
theorem n_X3_payTranche {n : Nat} {c : CC} : (f_X3_payTranche n c).2.1 = n + 1 := rfl
def PB (tm : Nat × Nat) (th n0 : Nat) (ca : Nat → Nat) (nt : Nat) (S0 : Sto) (F : Out × Nat × CC) : Out → Sto → Prop := fun o S1 => o = F.1 ∧ ∃ w' : CAd, w'.th = th ∧ (w'.n = n0 ∧ w'.ca = ca ∧ w'.nt = nt) ∧ w'.no = F.2.1 ∧ w'.m = w'.n ∧ CW tm S1 w' F.2.2 ∧ FrC S0 S1
theorem PB.of {tm : Nat × Nat} {th n0 nt : Nat} {ca : Nat → Nat} {S0 S1 : Sto} {F : Out × Nat × CC} {x : Out} {n : Nat} {G : CC} {w' : CAd} (e : F = (x, n, G)) (h0 : w'.th = th) (hw : w'.n = n0 ∧ w'.ca = ca ∧ w'.nt = nt) (h1 : w'.no = n) (h2 : w'.m = w'.n) (h : CW tm S1 w' G) (f : FrC S0 S1) : PB tm th n0 ca nt S0 F x S1 := by
  subst e
  exact ⟨rfl, w', h0, hw, h1, h2, h, f⟩
def PG (tm : Nat × Nat) (th n0 : Nat) (ca : Nat → Nat) (nt : Nat) (S0 : Sto) (F : Out × Nat × CC) : Out → Sto → Prop := fun o S1 => o = F.1 ∧ ∃ w' : CAd, w'.th = th ∧ (w'.n = n0 ∧ w'.ca = ca ∧ w'.no = nt) ∧ w'.nt = F.2.1 ∧ w'.m = w'.n ∧ CW tm S1 w' F.2.2 ∧ FrC S0 S1
theorem PG.of {tm : Nat × Nat} {th n0 nt : Nat} {ca : Nat → Nat} {S0 S1 : Sto} {F : Out × Nat × CC} {x : Out} {n : Nat} {G : CC} {w' : CAd} (e : F = (x, n, G)) (h0 : w'.th = th) (hw : w'.n = n0 ∧ w'.ca = ca ∧ w'.no = nt) (h1 : w'.nt = n) (h2 : w'.m = w'.n) (h : CW tm S1 w' G) (f : FrC S0 S1) : PG tm th n0 ca nt S0 F x S1 := by
  subst e
  exact ⟨rfl, w', h0, hw, h1, h2, h, f⟩
theorem rm2 {n b : Nat} (h : nI n < nI b) (hn : n ≤ 40) (hb : b ≤ 40) : n < b := by
  rw [Int32.lt_iff_toInt_lt, nI_toInt (by omega), nI_toInt (by omega)] at h
  omega
def f_X3_accept (n no : Nat) (c : CC) (k o : Int32) : Out × Nat × CC := if inr k n then (if inr o no then (if (c.ci (ix k) 0) = 1 then (.inr 2, n, c) else (if (i_X0_isOpen c (ix k)) = 0 then (.inr 2, n, c) else (if nI n + 1 ≤ 40 then (.inl (some (.int ((nI (n + 1)) - 1))), n + 1, ((f_X3_swap n c (ix k) k (ix o)).2.2)) else (.inr 2, n, c)))) else (.inr 3, n, c)) else (.inr 3, n, c)
set_option maxHeartbeats 4000000 in
theorem m_X3_accept {tm : Nat × Nat} {S : Sto} {w : CAd} {c : CC} {k o : Int32} (hW : CW tm S w c) (hm : w.m = w.n)  : Ev tm M_X3_accept [.ref w.th, .int k, .int o] S (PA tm w.th w.oa w.no w.nt S (f_X3_accept w.n w.no c k o)) := by
  have hF : FrC S S := FrC.rf
  refine ev_in ok_X3_accept (Nat.le_of_ble_eq_true rfl) ?_
  have hn40 := hW.n40
  refine s_aloadn dX3_accept_0 rfl rfl ?_
  refine s_iloadn dX3_accept_1 rfl rfl ?_
  by_cases r_2 : inr k w.n
  · refine s_cv1R (n := 12) dX3_accept_2 rfl (kv hW.th (by decide) rfl) rfl (by decide) (by decide) (by decide) (by decide) (Nat.le_of_ble_eq_true rfl) (m_claimAt_ok hW r_2) ?_
    refine s_astoren dX3_accept_5 rfl (by decide) ?_
    refine s_aloadn dX3_accept_6 rfl rfl ?_
    refine s_iloadn dX3_accept_7 rfl rfl ?_
    by_cases r_8 : inr o w.no
    · refine s_cv1R (n := 29) dX3_accept_8 rfl (kv hW.th (by decide) rfl) rfl (by decide) (by decide) (by decide) (by decide) (Nat.le_of_ble_eq_true rfl) (m_offerAt_ok hW r_8) ?_
      refine s_astore dX3_accept_11 (by decide) ?_
      refine s_aloadn dX3_accept_13 rfl rfl ?_
      refine s_get (v := .int (c.ci (ix k) 0)) (n := 19) dX3_accept_14 rfl (hW.cK _ (Nat.lt_of_lt_of_le (inr_lt r_2 hW.n40) hW.nm)) (congrArg Value.int (congrFun (hW.ci _ (Nat.lt_of_lt_of_le (inr_lt r_2 hW.n40) hW.nm)) 0)) ?_
      refine s_iconst (v := 1) dX3_accept_17 (by decide) ?_
      refine s_iceq (tgt := 28) dX3_accept_18 (by decide) (fun c_18 => ?_) (fun c_18 => ?_)
      · skip
        exact s_thr (x := 2) ⟨rfl, rfl, by decide, by decide, 93, 97, 210, _, by decide, List.mem_of_getElem? (i := 9) rfl, dX3_accept_28, dX3_accept_31, Or.inl ⟨dX3_accept_32, dX3_accept_34, dX3_accept_37⟩⟩ (by decide) (by decide) (by decide) (PA.of (w' := w) (F := f_X3_accept w.n w.no c k o) (x := .inr 2) (n := w.n) (by unfold f_X3_accept; rw [if_pos r_2, if_pos r_8, if_pos c_18]) ⟨rfl, rfl, rfl, rfl⟩ rfl hm hW hF)
      · skip
        refine s_aloadn dX3_accept_21 rfl rfl ?_
        refine s_cv0R (n := 13) dX3_accept_22 rfl (kv (hW.cK _ (Nat.lt_of_lt_of_le (inr_lt r_2 hW.n40) hW.nm)) (by decide) rfl) rfl (by decide) (by decide) (by decide) (by decide) (Nat.le_of_ble_eq_true rfl) (mi_X0_isOpen hW (Nat.lt_of_lt_of_le (inr_lt r_2 hW.n40) hW.nm)) ?_
        refine s_ifne (tgt := 38) dX3_accept_25 (by decide) (fun c_25 => ?_) (fun c_25 => ?_)
        · skip
          refine s_aloadn dX3_accept_38 rfl rfl ?_
          refine s_iconst (v := 1) dX3_accept_39 (by decide) ?_
          by_cases r_40 : nI w.n + 1 ≤ 40
          · refine s_cv1V (n := 7) dX3_accept_40 rfl (kv hW.th (by decide) rfl) rfl (by decide) (by decide) (by decide) (by decide) (Nat.le_of_ble_eq_true rfl) (m_needRoom_ok hW r_40) ?_
            refine s_aloadn dX3_accept_43 rfl rfl ?_
            refine s_aloadn dX3_accept_44 rfl rfl ?_
            refine s_iloadn dX3_accept_45 rfl rfl ?_
            refine s_aload dX3_accept_46 rfl ?_
            have hn := rm1 r_40 hn40
            refine s_cv3G (n := 30) dX3_accept_48 rfl (kv hW.th (by decide) rfl) rfl (by decide) (by decide) (by decide) (by decide) (Nat.le_of_ble_eq_true rfl) (m_X3_swap hW hm hn (inr_lt r_2 hW.n40) (inr_lt r_8 (Nat.le_trans hW.n12 (by decide)))) (fun r S1 hr => ?_) (fun x S2 hr => by obtain ⟨e, -⟩ := hr; rw [o_X3_swap] at e; cases e)
            obtain ⟨e, w', ⟨e1, e2, e3, e4⟩, en, em, hW', hG'⟩ := hr
            rw [o_X3_swap] at e
            cases e
            rw [n_X3_swap] at en
            have hF' := hF.tr hG'
            rw [← e1]
            refine s_aloadn dX3_accept_51 rfl rfl ?_
            refine s_getR (n := 4) dX3_accept_52 rfl hW'.th (fun _ _ _ => rfl) hW'.ral ?_
            refine s_cv0R (n := 3) dX3_accept_55 rfl (kv hW'.alK (by decide) rfl) rfl (by decide) (by decide) (by decide) (by decide) (Nat.le_of_ble_eq_true rfl) (m_size hW'.lc) ?_
            rw [en]
            refine s_iconst (v := 1) dX3_accept_58 (by decide) ?_
            refine s_isub dX3_accept_59 ?_
            exact s_reti dX3_accept_60 rfl rfl (PA.of (w' := w') (F := f_X3_accept w.n w.no c k o) (x := .inl (some (.int ((nI (w.n + 1)) - 1)))) (n := w.n + 1) (by unfold f_X3_accept; rw [if_pos r_2, if_pos r_8, if_neg c_18, if_neg c_25, if_pos r_40]) ⟨rfl, e2, e3, e4⟩ en em hW' hF')
          · exact s_cv1T (n := 7) dX3_accept_40 rfl (kv hW.th (by decide) rfl) rfl (by decide) (by decide) (by decide) (by decide) (Nat.le_of_ble_eq_true rfl) (m_needRoom_no hW r_40) rfl (PA.of (w' := w) (F := f_X3_accept w.n w.no c k o) (x := .inr 2) (n := w.n) (by unfold f_X3_accept; rw [if_pos r_2, if_pos r_8, if_neg c_18, if_neg c_25, if_neg r_40]) ⟨rfl, rfl, rfl, rfl⟩ rfl hm hW hF)
        · skip
          exact s_thr (x := 2) ⟨rfl, rfl, by decide, by decide, 93, 97, 210, _, by decide, List.mem_of_getElem? (i := 9) rfl, dX3_accept_28, dX3_accept_31, Or.inl ⟨dX3_accept_32, dX3_accept_34, dX3_accept_37⟩⟩ (by decide) (by decide) (by decide) (PA.of (w' := w) (F := f_X3_accept w.n w.no c k o) (x := .inr 2) (n := w.n) (by unfold f_X3_accept; rw [if_pos r_2, if_pos r_8, if_neg c_18, if_pos c_25]) ⟨rfl, rfl, rfl, rfl⟩ rfl hm hW hF)
    · exact s_cv1T (n := 29) dX3_accept_8 rfl (kv hW.th (by decide) rfl) rfl (by decide) (by decide) (by decide) (by decide) (Nat.le_of_ble_eq_true rfl) (m_offerAt_no hW r_8) rfl (PA.of (w' := w) (F := f_X3_accept w.n w.no c k o) (x := .inr 3) (n := w.n) (by unfold f_X3_accept; rw [if_pos r_2, if_neg r_8]) ⟨rfl, rfl, rfl, rfl⟩ rfl hm hW hF)
  · exact s_cv1T (n := 12) dX3_accept_2 rfl (kv hW.th (by decide) rfl) rfl (by decide) (by decide) (by decide) (by decide) (Nat.le_of_ble_eq_true rfl) (m_claimAt_no hW r_2) rfl (PA.of (w' := w) (F := f_X3_accept w.n w.no c k o) (x := .inr 3) (n := w.n) (by unfold f_X3_accept; rw [if_neg r_2]) ⟨rfl, rfl, rfl, rfl⟩ rfl hm hW hF)
def f_X3_review (n : Nat) (c : CC) : Out × Nat × CC := if (c.ti 13) = 0 then (.inr 2, n, c) else (if nI n + 1 ≤ 40 then (if (f_X3_reasonToFail n c) = 0 then (.inl (some (.int (f_X3_reasonToFail n c))), n + 1, ((f_X3_payTranche n c).2.2)) else (.inl (some (.int (f_X3_reasonToFail n c))), n, c)) else (.inr 2, n, c))
set_option maxHeartbeats 4000000 in
theorem m_X3_review {tm : Nat × Nat} {S : Sto} {w : CAd} {c : CC}  (hW : CW tm S w c) (hm : w.m = w.n)  : Ev tm M_X3_review [.ref w.th] S (PA tm w.th w.oa w.no w.nt S (f_X3_review w.n c)) := by
  have hF : FrC S S := FrC.rf
  refine ev_in ok_X3_review (Nat.le_of_ble_eq_true rfl) ?_
  have hn40 := hW.n40
  refine s_aloadn dX3_review_0 rfl rfl ?_
  refine s_get (v := .int (c.ti 13)) (n := 17) dX3_review_1 rfl hW.th (congrArg Value.int (congrFun hW.ti 13)) ?_
  refine s_ifne (tgt := 18) dX3_review_4 (by decide) (fun c_4 => ?_) (fun c_4 => ?_)
  · skip
    refine s_aloadn dX3_review_18 rfl rfl ?_
    refine s_iconst (v := 1) dX3_review_19 (by decide) ?_
    by_cases r_20 : nI w.n + 1 ≤ 40
    · refine s_cv1V (n := 7) dX3_review_20 rfl (kv hW.th (by decide) rfl) rfl (by decide) (by decide) (by decide) (by decide) (Nat.le_of_ble_eq_true rfl) (m_needRoom_ok hW r_20) ?_
      refine s_aloadn dX3_review_23 rfl rfl ?_
      refine s_cv0R (n := 44) dX3_review_24 rfl (kv hW.th (by decide) rfl) rfl (by decide) (by decide) (by decide) (by decide) (Nat.le_of_ble_eq_true rfl) (m_X3_reasonToFail hW ) ?_
      refine s_istoren dX3_review_27 rfl (by decide) ?_
      refine s_iloadn dX3_review_28 rfl rfl ?_
      refine s_ifne (tgt := 36) dX3_review_29 (by decide) (fun c_29 => ?_) (fun c_29 => ?_)
      · skip
        refine s_iloadn dX3_review_36 rfl rfl ?_
        exact s_reti dX3_review_37 rfl rfl (PA.of (w' := w) (F := f_X3_review w.n c) (x := .inl (some (.int (f_X3_reasonToFail w.n c)))) (n := w.n) (by unfold f_X3_review; rw [if_neg c_4, if_pos r_20, if_neg c_29]) ⟨rfl, rfl, rfl, rfl⟩ rfl hm hW hF)
      · skip
        refine s_aloadn dX3_review_32 rfl rfl ?_
        have hn := rm1 r_20 hn40
        refine s_cv0G (n := 45) dX3_review_33 rfl (kv hW.th (by decide) rfl) rfl (by decide) (by decide) (by decide) (by decide) (Nat.le_of_ble_eq_true rfl) (m_X3_payTranche hW hm hn) (fun r S1 hr => ?_) (fun x S2 hr => by obtain ⟨e, -⟩ := hr; rw [o_X3_payTranche] at e; cases e)
        obtain ⟨e, w', ⟨e1, e2, e3, e4⟩, en, em, hW', hG'⟩ := hr
        rw [o_X3_payTranche] at e
        cases e
        rw [n_X3_payTranche] at en
        have hF' := hF.tr hG'
        rw [← e1]
        refine s_iloadn dX3_review_36 rfl rfl ?_
        exact s_reti dX3_review_37 rfl rfl (PA.of (w' := w') (F := f_X3_review w.n c) (x := .inl (some (.int (f_X3_reasonToFail w.n c)))) (n := w.n + 1) (by unfold f_X3_review; rw [if_neg c_4, if_pos r_20, if_pos c_29]) ⟨rfl, e2, e3, e4⟩ en em hW' hF')
    · exact s_cv1T (n := 7) dX3_review_20 rfl (kv hW.th (by decide) rfl) rfl (by decide) (by decide) (by decide) (by decide) (Nat.le_of_ble_eq_true rfl) (m_needRoom_no hW r_20) rfl (PA.of (w' := w) (F := f_X3_review w.n c) (x := .inr 2) (n := w.n) (by unfold f_X3_review; rw [if_neg c_4, if_neg r_20]) ⟨rfl, rfl, rfl, rfl⟩ rfl hm hW hF)
  · skip
    exact s_thr (x := 2) ⟨rfl, rfl, by decide, by decide, 93, 97, 316, _, by decide, List.mem_of_getElem? (i := 16) rfl, dX3_review_7, dX3_review_10, Or.inr ⟨dX3_review_11, dX3_review_14, dX3_review_17⟩⟩ (by decide) (by decide) (by decide) (PA.of (w' := w) (F := f_X3_review w.n c) (x := .inr 2) (n := w.n) (by unfold f_X3_review; rw [if_pos c_4]) ⟨rfl, rfl, rfl, rfl⟩ rfl hm hW hF)
def f_X3_offer (no : Nat) (c : CC) (a1 q y : Int32) : Out × Nat × CC := if rng a1 0 99 then (if rng q 0 1000 then (if rng y 1 30 then (if (nI no) < 12 then (.inl (some (.int ((nI (no + 1)) - 1))), no + 1, (c.addo no (ofI a1 q y) (pJ (fun _ => 0) 3 0))) else (.inr 2, no, c)) else (.inr 1, no, c)) else (.inr 1, no, c)) else (.inr 1, no, c)
set_option maxHeartbeats 4000000 in
theorem m_X3_offer {tm : Nat × Nat} {S : Sto} {w : CAd} {c : CC} {a1 q y : Int32} (hW : CW tm S w c) (hm : w.m = w.n)  : Ev tm M_X3_offer [.ref w.th, .int a1, .int q, .int y] S (PB tm w.th w.n w.ca w.nt S (f_X3_offer w.no c a1 q y)) := by
  have hF : FrC S S := FrC.rf
  refine ev_in ok_X3_offer (Nat.le_of_ble_eq_true rfl) ?_
  have hn40 := hW.n40
  refine s_iloadn dX3_offer_0 rfl rfl ?_
  refine s_iconst (v := 0) dX3_offer_1 (by decide) ?_
  refine s_bipush (v := 99) dX3_offer_2 (by decide) ?_
  by_cases r_4 : rng a1 0 99
  · refine s_cs3V (n := 11) dX3_offer_4 rfl rfl (by decide) (by decide) (by decide) (by decide) (Nat.le_of_ble_eq_true rfl) (m_needRange_ok r_4) ?_
    refine s_iloadn dX3_offer_7 rfl rfl ?_
    refine s_iconst (v := 0) dX3_offer_8 (by decide) ?_
    refine s_sipush (v := 1000) dX3_offer_9 (by decide) ?_
    by_cases r_12 : rng q 0 1000
    · refine s_cs3V (n := 11) dX3_offer_12 rfl rfl (by decide) (by decide) (by decide) (by decide) (Nat.le_of_ble_eq_true rfl) (m_needRange_ok r_12) ?_
      refine s_iloadn dX3_offer_15 rfl rfl ?_
      refine s_iconst (v := 1) dX3_offer_16 (by decide) ?_
      refine s_bipush (v := 30) dX3_offer_17 (by decide) ?_
      by_cases r_19 : rng y 1 30
      · refine s_cs3V (n := 11) dX3_offer_19 rfl rfl (by decide) (by decide) (by decide) (by decide) (Nat.le_of_ble_eq_true rfl) (m_needRange_ok r_19) ?_
        refine s_aloadn dX3_offer_22 rfl rfl ?_
        refine s_getR (n := 5) dX3_offer_23 rfl hW.th (fun _ _ _ => rfl) hW.rol ?_
        refine s_cv0R (n := 3) dX3_offer_26 rfl (kv hW.olK (by decide) rfl) rfl (by decide) (by decide) (by decide) (by decide) (Nat.le_of_ble_eq_true rfl) (m_size hW.lo) ?_
        refine s_bipush (v := 12) dX3_offer_29 (by decide) ?_
        refine s_iclt (tgt := 44) dX3_offer_31 (by decide) (fun c_31 => ?_) (fun c_31 => ?_)
        · skip
          refine s_aloadn dX3_offer_44 rfl rfl ?_
          refine s_getR (n := 5) dX3_offer_45 rfl hW.th (fun _ _ _ => rfl) hW.rol ?_
          refine s_new (n := 3) dX3_offer_48 rfl (by decide) (by decide) (fun a ha => ?_)
          have hWa := hW.fr (S1 := sal S a 1 0) (fun b hb => same5.rf.A (fun e => ck_ne hb (by rw [e]; exact ha)))
          refine s_dup dX3_offer_51 rfl ?_
          refine s_iloadn dX3_offer_52 rfl rfl ?_
          refine s_iloadn dX3_offer_53 rfl rfl ?_
          refine s_iloadn dX3_offer_54 rfl rfl ?_
          refine s_ci3G (n := 4) dX3_offer_55 rfl rfl (by decide) (by decide) (by decide) (by decide) (Nat.le_of_ble_eq_true rfl) m_X1_init (fun r S1 hr => ?_) (fun x S2 hr => by obtain ⟨e, -⟩ := hr; cases e)
          obtain ⟨e, hN⟩ := hr
          cases e
          have hWb := hW.fr (S1 := S1) (fun b hb => hN.1 b (fun e => ck_ne hb (by rw [e]; exact ha)))
          have hF1 : FrC S S1 := FrC.of (fun b hb => hN.1 b (fun e => hb (by rw [e]; exact ha)))
          have hn := rm2 (b := 12) c_31 (Nat.le_trans hW.n12 (by decide)) (by decide)
          refine s_cv1G (n := 9) dX3_offer_58 rfl (kv hWb.olK (by decide) rfl) rfl (by decide) (by decide) (by decide) (by decide) (Nat.le_of_ble_eq_true rfl) (m_add hWb.lo (Nat.le_trans hWb.n12 (by decide)) hN.2.1 (by decide) (by decide)) (fun r S2 hr => ?_) (fun x S2 hr => by obtain ⟨e, -⟩ := hr; cases e)
          obtain ⟨e, hA⟩ := hr
          cases e
          have hW2 := hWb.addo hn hN.2.1 hN.2.2.1 hN.2.2.2 (fun i hi e => by have := hW.oK hi; rw [e, ha] at this; cases this) hA
          have hF2 := hF1.tr (FrC.add hWb.lo hA)
          refine s_pop dX3_offer_61 rfl ?_
          refine s_aloadn dX3_offer_62 rfl rfl ?_
          refine s_getR (n := 5) dX3_offer_63 rfl hW2.th (fun _ _ _ => rfl) hW2.rol ?_
          refine s_cv0R (n := 3) dX3_offer_66 rfl (kv hW2.olK (by decide) rfl) rfl (by decide) (by decide) (by decide) (by decide) (Nat.le_of_ble_eq_true rfl) (m_size hW2.lo) ?_
          refine s_iconst (v := 1) dX3_offer_69 (by decide) ?_
          refine s_isub dX3_offer_70 ?_
          exact s_reti dX3_offer_71 rfl rfl (PB.of (w' := w.addo a) (F := f_X3_offer w.no c a1 q y) (x := .inl (some (.int ((nI (w.no + 1)) - 1)))) (n := w.no + 1) (by unfold f_X3_offer; rw [if_pos r_4, if_pos r_12, if_pos r_19, if_pos c_31]) rfl ⟨rfl, rfl, rfl⟩ rfl hm hW2 hF2)
        · skip
          exact s_thr (x := 2) ⟨rfl, rfl, by decide, by decide, 93, 97, 200, _, by decide, List.mem_of_getElem? (i := 7) rfl, dX3_offer_34, dX3_offer_37, Or.inl ⟨dX3_offer_38, dX3_offer_40, dX3_offer_43⟩⟩ (by decide) (by decide) (by decide) (PB.of (w' := w) (F := f_X3_offer w.no c a1 q y) (x := .inr 2) (n := w.no) (by unfold f_X3_offer; rw [if_pos r_4, if_pos r_12, if_pos r_19, if_neg c_31]) rfl ⟨rfl, rfl, rfl⟩ rfl hm hW hF)
      · exact s_cs3T (n := 11) dX3_offer_19 rfl rfl (by decide) (by decide) (by decide) (by decide) (Nat.le_of_ble_eq_true rfl) (m_needRange_no r_19) rfl (PB.of (w' := w) (F := f_X3_offer w.no c a1 q y) (x := .inr 1) (n := w.no) (by unfold f_X3_offer; rw [if_pos r_4, if_pos r_12, if_neg r_19]) rfl ⟨rfl, rfl, rfl⟩ rfl hm hW hF)
    · exact s_cs3T (n := 11) dX3_offer_12 rfl rfl (by decide) (by decide) (by decide) (by decide) (Nat.le_of_ble_eq_true rfl) (m_needRange_no r_12) rfl (PB.of (w' := w) (F := f_X3_offer w.no c a1 q y) (x := .inr 1) (n := w.no) (by unfold f_X3_offer; rw [if_pos r_4, if_neg r_12]) rfl ⟨rfl, rfl, rfl⟩ rfl hm hW hF)
  · exact s_cs3T (n := 11) dX3_offer_4 rfl rfl (by decide) (by decide) (by decide) (by decide) (Nat.le_of_ble_eq_true rfl) (m_needRange_no r_4) rfl (PB.of (w' := w) (F := f_X3_offer w.no c a1 q y) (x := .inr 1) (n := w.no) (by unfold f_X3_offer; rw [if_neg r_4]) rfl ⟨rfl, rfl, rfl⟩ rfl hm hW hF)
def f_X3_thing (nt : Nat) (c : CC) (v : Int32) : Out × Nat × CC := if rng v 1 1000000 then (if (nI nt) < 10 then (.inl (some (.int ((nI (nt + 1)) - 1))), nt + 1, (c.addg nt (thI v))) else (.inr 2, nt, c)) else (.inr 1, nt, c)
set_option maxHeartbeats 4000000 in
theorem m_X3_thing {tm : Nat × Nat} {S : Sto} {w : CAd} {c : CC} {v : Int32} (hW : CW tm S w c) (hm : w.m = w.n)  : Ev tm M_X3_thing [.ref w.th, .int v] S (PG tm w.th w.n w.ca w.no S (f_X3_thing w.nt c v)) := by
  have hF : FrC S S := FrC.rf
  refine ev_in ok_X3_thing (Nat.le_of_ble_eq_true rfl) ?_
  have hn40 := hW.n40
  refine s_iloadn dX3_thing_0 rfl rfl ?_
  refine s_iconst (v := 1) dX3_thing_1 (by decide) ?_
  refine s_ldc (v := 1000000) dX3_thing_2 cst_RX3_63 ?_
  by_cases r_4 : rng v 1 1000000
  · refine s_cs3V (n := 11) dX3_thing_4 rfl rfl (by decide) (by decide) (by decide) (by decide) (Nat.le_of_ble_eq_true rfl) (m_needRange_ok r_4) ?_
    refine s_aloadn dX3_thing_7 rfl rfl ?_
    refine s_getR (n := 6) dX3_thing_8 rfl hW.th (fun _ _ _ => rfl) hW.rtl ?_
    refine s_cv0R (n := 3) dX3_thing_11 rfl (kv hW.tlK (by decide) rfl) rfl (by decide) (by decide) (by decide) (by decide) (Nat.le_of_ble_eq_true rfl) (m_size hW.lt) ?_
    refine s_bipush (v := 10) dX3_thing_14 (by decide) ?_
    refine s_iclt (tgt := 30) dX3_thing_16 (by decide) (fun c_16 => ?_) (fun c_16 => ?_)
    · skip
      refine s_aloadn dX3_thing_30 rfl rfl ?_
      refine s_getR (n := 6) dX3_thing_31 rfl hW.th (fun _ _ _ => rfl) hW.rtl ?_
      refine s_new (n := 4) dX3_thing_34 rfl (by decide) (by decide) (fun a ha => ?_)
      have hWa := hW.fr (S1 := sal S a 1 0) (fun b hb => same5.rf.A (fun e => ck_ne hb (by rw [e]; exact ha)))
      refine s_dup dX3_thing_37 rfl ?_
      refine s_iloadn dX3_thing_38 rfl rfl ?_
      refine s_ci1G (n := 5) dX3_thing_39 rfl rfl (by decide) (by decide) (by decide) (by decide) (Nat.le_of_ble_eq_true rfl) m_X2_init (fun r S1 hr => ?_) (fun x S2 hr => by obtain ⟨e, -⟩ := hr; cases e)
      obtain ⟨e, hN⟩ := hr
      cases e
      have hWb := hW.fr (S1 := S1) (fun b hb => hN.1 b (fun e => ck_ne hb (by rw [e]; exact ha)))
      have hF1 : FrC S S1 := FrC.of (fun b hb => hN.1 b (fun e => hb (by rw [e]; exact ha)))
      have hn := rm2 (b := 10) c_16 (Nat.le_trans hW.n10 (by decide)) (by decide)
      refine s_cv1G (n := 9) dX3_thing_42 rfl (kv hWb.tlK (by decide) rfl) rfl (by decide) (by decide) (by decide) (by decide) (Nat.le_of_ble_eq_true rfl) (m_add hWb.lt (Nat.le_trans hWb.n10 (by decide)) hN.2.1 (by decide) (by decide)) (fun r S2 hr => ?_) (fun x S2 hr => by obtain ⟨e, -⟩ := hr; cases e)
      obtain ⟨e, hA⟩ := hr
      cases e
      have hW2 := hWb.addg hn hN.2.1 hN.2.2.1 (fun i hi e => by have := hW.gK hi; rw [e, ha] at this; cases this) hA
      have hF2 := hF1.tr (FrC.add hWb.lt hA)
      refine s_pop dX3_thing_45 rfl ?_
      refine s_aloadn dX3_thing_46 rfl rfl ?_
      refine s_getR (n := 6) dX3_thing_47 rfl hW2.th (fun _ _ _ => rfl) hW2.rtl ?_
      refine s_cv0R (n := 3) dX3_thing_50 rfl (kv hW2.tlK (by decide) rfl) rfl (by decide) (by decide) (by decide) (by decide) (Nat.le_of_ble_eq_true rfl) (m_size hW2.lt) ?_
      refine s_iconst (v := 1) dX3_thing_53 (by decide) ?_
      refine s_isub dX3_thing_54 ?_
      exact s_reti dX3_thing_55 rfl rfl (PG.of (w' := w.addg a) (F := f_X3_thing w.nt c v) (x := .inl (some (.int ((nI (w.nt + 1)) - 1)))) (n := w.nt + 1) (by unfold f_X3_thing; rw [if_pos r_4, if_pos c_16]) rfl ⟨rfl, rfl, rfl⟩ rfl hm hW2 hF2)
    · skip
      exact s_thr (x := 2) ⟨rfl, rfl, by decide, by decide, 93, 97, 292, _, by decide, List.mem_of_getElem? (i := 11) rfl, dX3_thing_19, dX3_thing_22, Or.inr ⟨dX3_thing_23, dX3_thing_26, dX3_thing_29⟩⟩ (by decide) (by decide) (by decide) (PG.of (w' := w) (F := f_X3_thing w.nt c v) (x := .inr 2) (n := w.nt) (by unfold f_X3_thing; rw [if_pos r_4, if_neg c_16]) rfl ⟨rfl, rfl, rfl⟩ rfl hm hW hF)
  · exact s_cs3T (n := 11) dX3_thing_4 rfl rfl (by decide) (by decide) (by decide) (by decide) (Nat.le_of_ble_eq_true rfl) (m_needRange_no r_4) rfl (PG.of (w' := w) (F := f_X3_thing w.nt c v) (x := .inr 1) (n := w.nt) (by unfold f_X3_thing; rw [if_neg r_4]) rfl ⟨rfl, rfl, rfl⟩ rfl hm hW hF)
