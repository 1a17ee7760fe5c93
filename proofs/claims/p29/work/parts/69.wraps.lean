/-! THE LAW, 11: its wrappers: what was thrown is -2 -/
set_option maxHeartbeats 4000000 in
theorem m_L_claims {tm : Nat × Nat} {S : Sto} {w : CAd} {c : CC} {kd ld p q y rk z : Int32} (hW : CW tm S w c) (hm : w.m = w.n) (hz : z = 0 ∨ z = 1) {R : Out} (hR : (∃ v : Int32, (f_X3_claim w.n c kd ld p q y rk (if kd = 1 then ld - ld / 4 * 4 else -1) z).1 = .inl (some (.int v)) ∧ R = .inl (some (.int v))) ∨ ((f_X3_claim w.n c kd ld p q y rk (if kd = 1 then ld - ld / 4 * 4 else -1) z).1 = .inr 2 ∧ R = .inl (some (.int (-2))))) : Ev tm M_L_claims [.ref w.th, .int kd, .int ld, .int p, .int q, .int y, .int rk, .int z] S (fun o S1 => o = R ∧ (PA tm w.th w.oa w.no w.nt S (f_X3_claim w.n c kd ld p q y rk (if kd = 1 then ld - ld / 4 * 4 else -1) z)) (f_X3_claim w.n c kd ld p q y rk (if kd = 1 then ld - ld / 4 * 4 else -1) z).1 S1) := by
  refine ev_in ok_L_claims (Nat.le_of_ble_eq_true rfl) ?_
  refine s_aloadn dL_claims_0 rfl rfl ?_
  refine s_iloadn dL_claims_1 rfl rfl ?_
  refine s_iloadn dL_claims_2 rfl rfl ?_
  refine s_iloadn dL_claims_3 rfl rfl ?_
  refine s_iload dL_claims_4 rfl ?_
  refine s_iload dL_claims_6 rfl ?_
  refine s_iload dL_claims_8 rfl ?_
  refine s_iloadn dL_claims_10 rfl rfl ?_
  refine s_iconst (v := 1) dL_claims_11 (by decide) ?_
  by_cases h1 : kd = 1
  · refine s_icne (tgt := 21) dL_claims_12 (by decide) (fun c => absurd h1 c) (fun _ => ?_)
    rw [if_pos h1] at hR ⊢
    refine s_iloadn dL_claims_15 rfl rfl ?_
    refine s_iconst (v := 4) dL_claims_16 (by decide) ?_
    refine s_irem dL_claims_17 (by decide) ?_
    refine s_goto (tgt := 22) dL_claims_18 (by decide) ?_
    refine s_iload dL_claims_22 rfl ?_
    rcases hR with ⟨v, e, rfl⟩ | ⟨e, rfl⟩
    · refine s_cv8G (n := 50) dL_claims_24 rfl (kv hW.th (by decide) rfl) rfl (by decide) (by decide) (by decide) (by decide) (Nat.le_of_ble_eq_true rfl) (m_X3_claim hW hm hz) (fun r S1 hr => ?_) (fun x S1 hr => absurd (hr.1.trans e) (by intro h; cases h))
      have er := hr.1.trans e
      cases er
      exact s_reti dL_claims_27 rfl rfl ⟨rfl, by rw [e]; exact hr⟩
    · refine s_catch (n := 50) (as := [.int kd, .int ld, .int p, .int q, .int y, .int rk, .int (ld - ld / 4 * 4), .int z]) (st := []) (x := 2) (pre := []) (suf := []) (sp := 0) (ep := 27) (ct := 18) (h := 28) (hn := 30) (j := 8) dL_claims_24 rfl (kv hW.th (by decide) rfl) rfl (by decide) (by decide) (by decide) (by decide) (Nat.le_of_ble_eq_true rfl) (m_X3_claim hW hm hz) (fun r S1 hr => absurd (hr.1.trans e) (by intro h; cases h)) (fun x' S1' hr => Sum.inr.inj (hr.1.trans e)) rfl (by decide) (by decide) (by decide) clkL_2 csaL_2 (fun z hz => absurd hz List.not_mem_nil) (by decide) (by decide) (Or.inr ⟨dL_claims_28, rfl⟩) (by decide) (fun S1 hr => ?_)
      refine s_bipush (v := (-2)) dL_claims_30 (by decide) ?_
      exact s_reti dL_claims_32 rfl rfl ⟨rfl, by rw [e]; exact hr⟩
  · refine s_icne (tgt := 21) dL_claims_12 (by decide) (fun _ => ?_) (fun c => absurd c h1)
    rw [if_neg h1] at hR ⊢
    refine s_iconst (v := (-1)) dL_claims_21 (by decide) ?_
    refine s_iload dL_claims_22 rfl ?_
    rcases hR with ⟨v, e, rfl⟩ | ⟨e, rfl⟩
    · refine s_cv8G (n := 50) dL_claims_24 rfl (kv hW.th (by decide) rfl) rfl (by decide) (by decide) (by decide) (by decide) (Nat.le_of_ble_eq_true rfl) (m_X3_claim hW hm hz) (fun r S1 hr => ?_) (fun x S1 hr => absurd (hr.1.trans e) (by intro h; cases h))
      have er := hr.1.trans e
      cases er
      exact s_reti dL_claims_27 rfl rfl ⟨rfl, by rw [e]; exact hr⟩
    · refine s_catch (n := 50) (as := [.int kd, .int ld, .int p, .int q, .int y, .int rk, .int (-1), .int z]) (st := []) (x := 2) (pre := []) (suf := []) (sp := 0) (ep := 27) (ct := 18) (h := 28) (hn := 30) (j := 8) dL_claims_24 rfl (kv hW.th (by decide) rfl) rfl (by decide) (by decide) (by decide) (by decide) (Nat.le_of_ble_eq_true rfl) (m_X3_claim hW hm hz) (fun r S1 hr => absurd (hr.1.trans e) (by intro h; cases h)) (fun x' S1' hr => Sum.inr.inj (hr.1.trans e)) rfl (by decide) (by decide) (by decide) clkL_2 csaL_2 (fun z hz => absurd hz List.not_mem_nil) (by decide) (by decide) (Or.inr ⟨dL_claims_28, rfl⟩) (by decide) (fun S1 hr => ?_)
      refine s_bipush (v := (-2)) dL_claims_30 (by decide) ?_
      exact s_reti dL_claims_32 rfl rfl ⟨rfl, by rw [e]; exact hr⟩
set_option maxHeartbeats 4000000 in
theorem m_L_pledges {tm : Nat × Nat} {S : Sto} {w : CAd} {c : CC} {k x : Int32} (hW : CW tm S w c) {R : Out} (hR : (∃ v : Int64, (f_X3_pledge w.n c k x).1 = .inl (some (.long v)) ∧ R = .inl (some (.long v))) ∨ ((f_X3_pledge w.n c k x).1 = .inr 2 ∧ R = .inl (some (.long (-2))))) : Ev tm M_L_pledges [.ref w.th, .int k, .int x] S (fun o S1 => o = R ∧ (PO tm w S (f_X3_pledge w.n c k x)) (f_X3_pledge w.n c k x).1 S1) := by
  refine ev_in ok_L_pledges (Nat.le_of_ble_eq_true rfl) ?_
  refine s_aloadn dL_pledges_0 rfl rfl ?_
  refine s_iloadn dL_pledges_1 rfl rfl ?_
  refine s_iloadn dL_pledges_2 rfl rfl ?_
  rcases hR with ⟨v, e, rfl⟩ | ⟨e, rfl⟩
  · refine s_cv2G (n := 59) dL_pledges_3 rfl (kv hW.th (by decide) rfl) rfl (by decide) (by decide) (by decide) (by decide) (Nat.le_of_ble_eq_true rfl) (m_X3_pledge hW) (fun r S1 hr => ?_) (fun x S1 hr => absurd (hr.1.trans e) (by intro h; cases h))
    have er := hr.1.trans e
    cases er
    exact s_retl dL_pledges_6 rfl ⟨rfl, by rw [e]; exact hr⟩
  · refine s_catch (n := 59) (as := [.int k, .int x]) (st := []) (x := 2) (pre := []) (suf := []) (sp := 0) (ep := 6) (ct := 18) (h := 7) (hn := 8) (j := 3) dL_pledges_3 rfl (kv hW.th (by decide) rfl) rfl (by decide) (by decide) (by decide) (by decide) (Nat.le_of_ble_eq_true rfl) (m_X3_pledge hW) (fun r S1 hr => absurd (hr.1.trans e) (by intro h; cases h)) (fun x' S1' hr => Sum.inr.inj (hr.1.trans e)) rfl (by decide) (by decide) (by decide) clkL_2 csaL_2 (fun z hz => absurd hz List.not_mem_nil) (by decide) (by decide) (Or.inl ⟨3, dL_pledges_7, rfl, rfl⟩) (by decide) (fun S1 hr => ?_)
    refine s_ldc2 (v := (-2)) dL_pledges_8 cslL_24 ?_
    exact s_retl dL_pledges_11 rfl ⟨rfl, by rw [e]; exact hr⟩
set_option maxHeartbeats 4000000 in
theorem m_L_years {tm : Nat × Nat} {S : Sto} {w : CAd} {c : CC}  (hW : CW tm S w c) {R : Out} (hR : (∃ v : Int64, (f_X3_year w.n c 1).1 = .inl (some (.long v)) ∧ R = .inl (some (.long v))) ∨ ((f_X3_year w.n c 1).1 = .inr 2 ∧ R = .inl (some (.long (-2))))) : Ev tm M_L_years [.ref w.th] S (fun o S1 => o = R ∧ (PO tm w S (f_X3_year w.n c 1)) (f_X3_year w.n c 1).1 S1) := by
  refine ev_in ok_L_years (Nat.le_of_ble_eq_true rfl) ?_
  refine s_aloadn dL_years_0 rfl rfl ?_
  refine s_iconst (v := 1) dL_years_1 (by decide) ?_
  rcases hR with ⟨v, e, rfl⟩ | ⟨e, rfl⟩
  · refine s_cv1G (n := 60) dL_years_2 rfl (kv hW.th (by decide) rfl) rfl (by decide) (by decide) (by decide) (by decide) (Nat.le_of_ble_eq_true rfl) (m_X3_year hW) (fun r S1 hr => ?_) (fun x S1 hr => absurd (hr.1.trans e) (by intro h; cases h))
    have er := hr.1.trans e
    cases er
    exact s_retl dL_years_5 rfl ⟨rfl, by rw [e]; exact hr⟩
  · refine s_catch (n := 60) (as := [.int 1]) (st := []) (x := 2) (pre := []) (suf := []) (sp := 0) (ep := 5) (ct := 18) (h := 6) (hn := 7) (j := 1) dL_years_2 rfl (kv hW.th (by decide) rfl) rfl (by decide) (by decide) (by decide) (by decide) (Nat.le_of_ble_eq_true rfl) (m_X3_year hW) (fun r S1 hr => absurd (hr.1.trans e) (by intro h; cases h)) (fun x' S1' hr => Sum.inr.inj (hr.1.trans e)) rfl (by decide) (by decide) (by decide) clkL_2 csaL_2 (fun z hz => absurd hz List.not_mem_nil) (by decide) (by decide) (Or.inl ⟨1, dL_years_6, rfl, rfl⟩) (by decide) (fun S1 hr => ?_)
    refine s_ldc2 (v := (-2)) dL_years_7 cslL_24 ?_
    exact s_retl dL_years_10 rfl ⟨rfl, by rw [e]; exact hr⟩
set_option maxHeartbeats 4000000 in
theorem m_L_votes {tm : Nat × Nat} {S : Sto} {w : CAd} {c : CC} {k x z : Int32} (hW : CW tm S w c) (hz : z = 0 ∨ z = 1) {R : Out} (hR : ((f_X3_vote w.n w.no c k x z).1 = .inl none ∧ R = .inl (some (.int 1))) ∨ ((f_X3_vote w.n w.no c k x z).1 = .inr 2 ∧ R = .inl (some (.int 0)))) : Ev tm M_L_votes [.ref w.th, .int k, .int x, .int z] S (fun o S1 => o = R ∧ (PO tm w S (f_X3_vote w.n w.no c k x z)) (f_X3_vote w.n w.no c k x z).1 S1) := by
  refine ev_in ok_L_votes (Nat.le_of_ble_eq_true rfl) ?_
  refine s_aloadn dL_votes_0 rfl rfl ?_
  refine s_iloadn dL_votes_1 rfl rfl ?_
  refine s_iloadn dL_votes_2 rfl rfl ?_
  refine s_iloadn dL_votes_3 rfl rfl ?_
  rcases hR with ⟨e, rfl⟩ | ⟨e, rfl⟩
  · refine s_cv3G (n := 66) dL_votes_4 rfl (kv hW.th (by decide) rfl) rfl (by decide) (by decide) (by decide) (by decide) (Nat.le_of_ble_eq_true rfl) (m_X3_vote hW hz) (fun r S1 hr => ?_) (fun x S1 hr => absurd (hr.1.trans e) (by intro h; cases h))
    have er := hr.1.trans e
    cases er
    refine s_iconst (v := 1) dL_votes_7 (by decide) ?_
    exact s_reti dL_votes_8 rfl (nr_bool (by decide)) ⟨rfl, by rw [e]; exact hr⟩
  · refine s_catch (n := 66) (as := [.int k, .int x, .int z]) (st := []) (x := 2) (pre := []) (suf := []) (sp := 0) (ep := 8) (ct := 18) (h := 9) (hn := 11) (j := 4) dL_votes_4 rfl (kv hW.th (by decide) rfl) rfl (by decide) (by decide) (by decide) (by decide) (Nat.le_of_ble_eq_true rfl) (m_X3_vote hW hz) (fun r S1 hr => absurd (hr.1.trans e) (by intro h; cases h)) (fun x' S1' hr => Sum.inr.inj (hr.1.trans e)) rfl (by decide) (by decide) (by decide) clkL_2 csaL_2 (fun z hz => absurd hz List.not_mem_nil) (by decide) (by decide) (Or.inr ⟨dL_votes_9, rfl⟩) (by decide) (fun S1 hr => ?_)
    refine s_iconst (v := 0) dL_votes_11 (by decide) ?_
    exact s_reti dL_votes_12 rfl (nr_bool (by decide)) ⟨rfl, by rw [e]; exact hr⟩
set_option maxHeartbeats 4000000 in
theorem m_L_sues {tm : Nat × Nat} {S : Sto} {w : CAd} {c : CC} {k : Int32} (hW : CW tm S w c) {R : Out} (hR : ((f_X3_sue w.n c k).1 = .inl none ∧ R = .inl (some (.int 1))) ∨ ((f_X3_sue w.n c k).1 = .inr 2 ∧ R = .inl (some (.int 0)))) : Ev tm M_L_sues [.ref w.th, .int k] S (fun o S1 => o = R ∧ (PO tm w S (f_X3_sue w.n c k)) (f_X3_sue w.n c k).1 S1) := by
  refine ev_in ok_L_sues (Nat.le_of_ble_eq_true rfl) ?_
  refine s_aloadn dL_sues_0 rfl rfl ?_
  refine s_iloadn dL_sues_1 rfl rfl ?_
  rcases hR with ⟨e, rfl⟩ | ⟨e, rfl⟩
  · refine s_cv1G (n := 67) dL_sues_2 rfl (kv hW.th (by decide) rfl) rfl (by decide) (by decide) (by decide) (by decide) (Nat.le_of_ble_eq_true rfl) (m_X3_sue hW) (fun r S1 hr => ?_) (fun x S1 hr => absurd (hr.1.trans e) (by intro h; cases h))
    have er := hr.1.trans e
    cases er
    refine s_iconst (v := 1) dL_sues_5 (by decide) ?_
    exact s_reti dL_sues_6 rfl (nr_bool (by decide)) ⟨rfl, by rw [e]; exact hr⟩
  · refine s_catch (n := 67) (as := [.int k]) (st := []) (x := 2) (pre := []) (suf := []) (sp := 0) (ep := 6) (ct := 18) (h := 7) (hn := 8) (j := 2) dL_sues_2 rfl (kv hW.th (by decide) rfl) rfl (by decide) (by decide) (by decide) (by decide) (Nat.le_of_ble_eq_true rfl) (m_X3_sue hW) (fun r S1 hr => absurd (hr.1.trans e) (by intro h; cases h)) (fun x' S1' hr => Sum.inr.inj (hr.1.trans e)) rfl (by decide) (by decide) (by decide) clkL_2 csaL_2 (fun z hz => absurd hz List.not_mem_nil) (by decide) (by decide) (Or.inl ⟨2, dL_sues_7, rfl, rfl⟩) (by decide) (fun S1 hr => ?_)
    refine s_iconst (v := 0) dL_sues_8 (by decide) ?_
    exact s_reti dL_sues_9 rfl (nr_bool (by decide)) ⟨rfl, by rw [e]; exact hr⟩
set_option maxHeartbeats 4000000 in
theorem m_L_seizes {tm : Nat × Nat} {S : Sto} {w : CAd} {c : CC} {k x : Int32} (hW : CW tm S w c) {R : Out} (hR : (∃ v : Int64, (f_X3_seize w.n w.nt c k x).1 = .inl (some (.long v)) ∧ R = .inl (some (.long v))) ∨ ((f_X3_seize w.n w.nt c k x).1 = .inr 2 ∧ R = .inl (some (.long (-2))))) : Ev tm M_L_seizes [.ref w.th, .int k, .int x] S (fun o S1 => o = R ∧ (PO tm w S (f_X3_seize w.n w.nt c k x)) (f_X3_seize w.n w.nt c k x).1 S1) := by
  refine ev_in ok_L_seizes (Nat.le_of_ble_eq_true rfl) ?_
  refine s_aloadn dL_seizes_0 rfl rfl ?_
  refine s_iloadn dL_seizes_1 rfl rfl ?_
  refine s_iloadn dL_seizes_2 rfl rfl ?_
  rcases hR with ⟨v, e, rfl⟩ | ⟨e, rfl⟩
  · refine s_cv2G (n := 68) dL_seizes_3 rfl (kv hW.th (by decide) rfl) rfl (by decide) (by decide) (by decide) (by decide) (Nat.le_of_ble_eq_true rfl) (m_X3_seize hW) (fun r S1 hr => ?_) (fun x S1 hr => absurd (hr.1.trans e) (by intro h; cases h))
    have er := hr.1.trans e
    cases er
    exact s_retl dL_seizes_6 rfl ⟨rfl, by rw [e]; exact hr⟩
  · refine s_catch (n := 68) (as := [.int k, .int x]) (st := []) (x := 2) (pre := []) (suf := []) (sp := 0) (ep := 6) (ct := 18) (h := 7) (hn := 8) (j := 3) dL_seizes_3 rfl (kv hW.th (by decide) rfl) rfl (by decide) (by decide) (by decide) (by decide) (Nat.le_of_ble_eq_true rfl) (m_X3_seize hW) (fun r S1 hr => absurd (hr.1.trans e) (by intro h; cases h)) (fun x' S1' hr => Sum.inr.inj (hr.1.trans e)) rfl (by decide) (by decide) (by decide) clkL_2 csaL_2 (fun z hz => absurd hz List.not_mem_nil) (by decide) (by decide) (Or.inl ⟨3, dL_seizes_7, rfl, rfl⟩) (by decide) (fun S1 hr => ?_)
    refine s_ldc2 (v := (-2)) dL_seizes_8 cslL_24 ?_
    exact s_retl dL_seizes_11 rfl ⟨rfl, by rw [e]; exact hr⟩
set_option maxHeartbeats 4000000 in
theorem m_L_reveals {tm : Nat × Nat} {S : Sto} {w : CAd} {c : CC} {k : Int32} (hW : CW tm S w c) {R : Out} (hR : (∃ v : Int64, (f_X3_reveal w.n c k).1 = .inl (some (.long v)) ∧ R = .inl (some (.long v))) ∨ ((f_X3_reveal w.n c k).1 = .inr 2 ∧ R = .inl (some (.long (-2))))) : Ev tm M_L_reveals [.ref w.th, .int k] S (fun o S1 => o = R ∧ (PO tm w S (f_X3_reveal w.n c k)) (f_X3_reveal w.n c k).1 S1) := by
  refine ev_in ok_L_reveals (Nat.le_of_ble_eq_true rfl) ?_
  refine s_aloadn dL_reveals_0 rfl rfl ?_
  refine s_iloadn dL_reveals_1 rfl rfl ?_
  rcases hR with ⟨v, e, rfl⟩ | ⟨e, rfl⟩
  · refine s_cv1G (n := 69) dL_reveals_2 rfl (kv hW.th (by decide) rfl) rfl (by decide) (by decide) (by decide) (by decide) (Nat.le_of_ble_eq_true rfl) (m_X3_reveal hW) (fun r S1 hr => ?_) (fun x S1 hr => absurd (hr.1.trans e) (by intro h; cases h))
    have er := hr.1.trans e
    cases er
    exact s_retl dL_reveals_5 rfl ⟨rfl, by rw [e]; exact hr⟩
  · refine s_catch (n := 69) (as := [.int k]) (st := []) (x := 2) (pre := []) (suf := []) (sp := 0) (ep := 5) (ct := 18) (h := 6) (hn := 7) (j := 2) dL_reveals_2 rfl (kv hW.th (by decide) rfl) rfl (by decide) (by decide) (by decide) (by decide) (Nat.le_of_ble_eq_true rfl) (m_X3_reveal hW) (fun r S1 hr => absurd (hr.1.trans e) (by intro h; cases h)) (fun x' S1' hr => Sum.inr.inj (hr.1.trans e)) rfl (by decide) (by decide) (by decide) clkL_2 csaL_2 (fun z hz => absurd hz List.not_mem_nil) (by decide) (by decide) (Or.inl ⟨2, dL_reveals_6, rfl, rfl⟩) (by decide) (fun S1 hr => ?_)
    refine s_ldc2 (v := (-2)) dL_reveals_7 cslL_24 ?_
    exact s_retl dL_reveals_10 rfl ⟨rfl, by rw [e]; exact hr⟩
set_option maxHeartbeats 4000000 in
theorem m_L_acts0 {tm : Nat × Nat} {S : Sto} {w : CAd} {c : CC} {a b : Int32} (hW : CW tm S w c) (hm : w.m = w.n) {R : Out} (hR : (∃ v : Int32, (f_X3_offer w.no c (a - a / 100 * 100) (b - b / 1001 * 1001) (1 + ((b / 7) - (b / 7) / 30 * 30))).1 = .inl (some (.int v)) ∧ R = .inl (some (.int v))) ∨ ((f_X3_offer w.no c (a - a / 100 * 100) (b - b / 1001 * 1001) (1 + ((b / 7) - (b / 7) / 30 * 30))).1 = .inr 2 ∧ R = .inl (some (.int (-2))))) : Ev tm M_L_acts [.ref w.th, .int a, .int b, .int 0] S (fun o S1 => o = R ∧ (PB tm w.th w.n w.ca w.nt S (f_X3_offer w.no c (a - a / 100 * 100) (b - b / 1001 * 1001) (1 + ((b / 7) - (b / 7) / 30 * 30)))) (f_X3_offer w.no c (a - a / 100 * 100) (b - b / 1001 * 1001) (1 + ((b / 7) - (b / 7) / 30 * 30))).1 S1) := by
  refine ev_in ok_L_acts (Nat.le_of_ble_eq_true rfl) ?_
  refine s_iloadn dL_acts_0 rfl rfl ?_
  refine s_ifne (tgt := 29) dL_acts_1 (by decide) (fun c => absurd rfl c) (fun _ => ?_)
  refine s_aloadn dL_acts_4 rfl rfl ?_
  refine s_iloadn dL_acts_5 rfl rfl ?_
  refine s_bipush (v := 100) dL_acts_6 (by decide) ?_
  refine s_irem dL_acts_8 (by decide) ?_
  refine s_iloadn dL_acts_9 rfl rfl ?_
  refine s_sipush (v := 1001) dL_acts_10 (by decide) ?_
  refine s_irem dL_acts_13 (by decide) ?_
  refine s_iconst (v := 1) dL_acts_14 (by decide) ?_
  refine s_iloadn dL_acts_15 rfl rfl ?_
  refine s_bipush (v := 7) dL_acts_16 (by decide) ?_
  refine s_idiv dL_acts_18 (by decide) ?_
  refine s_bipush (v := 30) dL_acts_19 (by decide) ?_
  refine s_irem dL_acts_21 (by decide) ?_
  refine s_iadd dL_acts_22 ?_
  rcases hR with ⟨v, e, rfl⟩ | ⟨e, rfl⟩
  · refine s_cv3G (n := 61) dL_acts_23 rfl (kv hW.th (by decide) rfl) rfl (by decide) (by decide) (by decide) (by decide) (Nat.le_of_ble_eq_true rfl) (m_X3_offer hW hm) (fun r S1 hr => ?_) (fun x S1 hr => absurd (hr.1.trans e) (by intro h; cases h))
    have er := hr.1.trans e
    cases er
    refine s_goto (tgt := 73) dL_acts_26 (by decide) ?_
    exact s_reti dL_acts_73 rfl rfl ⟨rfl, by rw [e]; exact hr⟩
  · refine s_catch (n := 61) (as := [.int (a - a / 100 * 100), .int (b - b / 1001 * 1001), .int (1 + ((b / 7) - (b / 7) / 30 * 30))]) (st := []) (x := 2) (pre := []) (suf := []) (sp := 0) (ep := 73) (ct := 18) (h := 74) (hn := 76) (j := 4) dL_acts_23 rfl (kv hW.th (by decide) rfl) rfl (by decide) (by decide) (by decide) (by decide) (Nat.le_of_ble_eq_true rfl) (m_X3_offer hW hm) (fun r S1 hr => absurd (hr.1.trans e) (by intro h; cases h)) (fun x' S1' hr => Sum.inr.inj (hr.1.trans e)) rfl (by decide) (by decide) (by decide) clkL_2 csaL_2 (fun z hz => absurd hz List.not_mem_nil) (by decide) (by decide) (Or.inr ⟨dL_acts_74, rfl⟩) (by decide) (fun S1 hr => ?_)
    refine s_bipush (v := (-2)) dL_acts_76 (by decide) ?_
    exact s_reti dL_acts_78 rfl rfl ⟨rfl, by rw [e]; exact hr⟩
set_option maxHeartbeats 4000000 in
theorem m_L_acts1 {tm : Nat × Nat} {S : Sto} {w : CAd} {c : CC} {a b : Int32} (hW : CW tm S w c) (hm : w.m = w.n) {R : Out} (hR : (∃ v : Int32, (f_X3_accept w.n w.no c a b).1 = .inl (some (.int v)) ∧ R = .inl (some (.int v))) ∨ ((f_X3_accept w.n w.no c a b).1 = .inr 2 ∧ R = .inl (some (.int (-2))))) : Ev tm M_L_acts [.ref w.th, .int a, .int b, .int 1] S (fun o S1 => o = R ∧ (PA tm w.th w.oa w.no w.nt S (f_X3_accept w.n w.no c a b)) (f_X3_accept w.n w.no c a b).1 S1) := by
  refine ev_in ok_L_acts (Nat.le_of_ble_eq_true rfl) ?_
  refine s_iloadn dL_acts_0 rfl rfl ?_
  refine s_ifne (tgt := 29) dL_acts_1 (by decide) (fun _ => ?_) (fun c => absurd c (by decide))
  refine s_iloadn dL_acts_29 rfl rfl ?_
  refine s_iconst (v := 1) dL_acts_30 (by decide) ?_
  refine s_icne (tgt := 43) dL_acts_31 (by decide) (fun c => absurd rfl c) (fun _ => ?_)
  refine s_aloadn dL_acts_34 rfl rfl ?_
  refine s_iloadn dL_acts_35 rfl rfl ?_
  refine s_iloadn dL_acts_36 rfl rfl ?_
  rcases hR with ⟨v, e, rfl⟩ | ⟨e, rfl⟩
  · refine s_cv2G (n := 62) dL_acts_37 rfl (kv hW.th (by decide) rfl) rfl (by decide) (by decide) (by decide) (by decide) (Nat.le_of_ble_eq_true rfl) (m_X3_accept hW hm) (fun r S1 hr => ?_) (fun x S1 hr => absurd (hr.1.trans e) (by intro h; cases h))
    have er := hr.1.trans e
    cases er
    refine s_goto (tgt := 73) dL_acts_40 (by decide) ?_
    exact s_reti dL_acts_73 rfl rfl ⟨rfl, by rw [e]; exact hr⟩
  · refine s_catch (n := 62) (as := [.int a, .int b]) (st := []) (x := 2) (pre := []) (suf := []) (sp := 0) (ep := 73) (ct := 18) (h := 74) (hn := 76) (j := 4) dL_acts_37 rfl (kv hW.th (by decide) rfl) rfl (by decide) (by decide) (by decide) (by decide) (Nat.le_of_ble_eq_true rfl) (m_X3_accept hW hm) (fun r S1 hr => absurd (hr.1.trans e) (by intro h; cases h)) (fun x' S1' hr => Sum.inr.inj (hr.1.trans e)) rfl (by decide) (by decide) (by decide) clkL_2 csaL_2 (fun z hz => absurd hz List.not_mem_nil) (by decide) (by decide) (Or.inr ⟨dL_acts_74, rfl⟩) (by decide) (fun S1 hr => ?_)
    refine s_bipush (v := (-2)) dL_acts_76 (by decide) ?_
    exact s_reti dL_acts_78 rfl rfl ⟨rfl, by rw [e]; exact hr⟩
set_option maxHeartbeats 4000000 in
theorem m_L_acts2 {tm : Nat × Nat} {S : Sto} {w : CAd} {c : CC} {a b : Int32} (hW : CW tm S w c) (hm : w.m = w.n) {R : Out} (hR : (∃ v : Int32, (f_X3_settle w.n w.no c a).1 = .inl (some (.int v)) ∧ R = .inl (some (.int v))) ∨ ((f_X3_settle w.n w.no c a).1 = .inr 2 ∧ R = .inl (some (.int (-2))))) : Ev tm M_L_acts [.ref w.th, .int a, .int b, .int 2] S (fun o S1 => o = R ∧ (PA tm w.th w.oa w.no w.nt S (f_X3_settle w.n w.no c a)) (f_X3_settle w.n w.no c a).1 S1) := by
  refine ev_in ok_L_acts (Nat.le_of_ble_eq_true rfl) ?_
  refine s_iloadn dL_acts_0 rfl rfl ?_
  refine s_ifne (tgt := 29) dL_acts_1 (by decide) (fun _ => ?_) (fun c => absurd c (by decide))
  refine s_iloadn dL_acts_29 rfl rfl ?_
  refine s_iconst (v := 1) dL_acts_30 (by decide) ?_
  refine s_icne (tgt := 43) dL_acts_31 (by decide) (fun _ => ?_) (fun c => absurd c (by decide))
  refine s_iloadn dL_acts_43 rfl rfl ?_
  refine s_iconst (v := 2) dL_acts_44 (by decide) ?_
  refine s_icne (tgt := 56) dL_acts_45 (by decide) (fun c => absurd rfl c) (fun _ => ?_)
  refine s_aloadn dL_acts_48 rfl rfl ?_
  refine s_iloadn dL_acts_49 rfl rfl ?_
  rcases hR with ⟨v, e, rfl⟩ | ⟨e, rfl⟩
  · refine s_cv1G (n := 63) dL_acts_50 rfl (kv hW.th (by decide) rfl) rfl (by decide) (by decide) (by decide) (by decide) (Nat.le_of_ble_eq_true rfl) (m_X3_settle hW hm) (fun r S1 hr => ?_) (fun x S1 hr => absurd (hr.1.trans e) (by intro h; cases h))
    have er := hr.1.trans e
    cases er
    refine s_goto (tgt := 73) dL_acts_53 (by decide) ?_
    exact s_reti dL_acts_73 rfl rfl ⟨rfl, by rw [e]; exact hr⟩
  · refine s_catch (n := 63) (as := [.int a]) (st := []) (x := 2) (pre := []) (suf := []) (sp := 0) (ep := 73) (ct := 18) (h := 74) (hn := 76) (j := 4) dL_acts_50 rfl (kv hW.th (by decide) rfl) rfl (by decide) (by decide) (by decide) (by decide) (Nat.le_of_ble_eq_true rfl) (m_X3_settle hW hm) (fun r S1 hr => absurd (hr.1.trans e) (by intro h; cases h)) (fun x' S1' hr => Sum.inr.inj (hr.1.trans e)) rfl (by decide) (by decide) (by decide) clkL_2 csaL_2 (fun z hz => absurd hz List.not_mem_nil) (by decide) (by decide) (Or.inr ⟨dL_acts_74, rfl⟩) (by decide) (fun S1 hr => ?_)
    refine s_bipush (v := (-2)) dL_acts_76 (by decide) ?_
    exact s_reti dL_acts_78 rfl rfl ⟨rfl, by rw [e]; exact hr⟩
set_option maxHeartbeats 4000000 in
theorem m_L_acts3 {tm : Nat × Nat} {S : Sto} {w : CAd} {c : CC} {a b : Int32} (hW : CW tm S w c) (hm : w.m = w.n) {R : Out} (hR : (∃ v : Int32, (f_X3_thing w.nt c a).1 = .inl (some (.int v)) ∧ R = .inl (some (.int v))) ∨ ((f_X3_thing w.nt c a).1 = .inr 2 ∧ R = .inl (some (.int (-2))))) : Ev tm M_L_acts [.ref w.th, .int a, .int b, .int 3] S (fun o S1 => o = R ∧ (PG tm w.th w.n w.ca w.no S (f_X3_thing w.nt c a)) (f_X3_thing w.nt c a).1 S1) := by
  refine ev_in ok_L_acts (Nat.le_of_ble_eq_true rfl) ?_
  refine s_iloadn dL_acts_0 rfl rfl ?_
  refine s_ifne (tgt := 29) dL_acts_1 (by decide) (fun _ => ?_) (fun c => absurd c (by decide))
  refine s_iloadn dL_acts_29 rfl rfl ?_
  refine s_iconst (v := 1) dL_acts_30 (by decide) ?_
  refine s_icne (tgt := 43) dL_acts_31 (by decide) (fun _ => ?_) (fun c => absurd c (by decide))
  refine s_iloadn dL_acts_43 rfl rfl ?_
  refine s_iconst (v := 2) dL_acts_44 (by decide) ?_
  refine s_icne (tgt := 56) dL_acts_45 (by decide) (fun _ => ?_) (fun c => absurd c (by decide))
  refine s_iloadn dL_acts_56 rfl rfl ?_
  refine s_iconst (v := 3) dL_acts_57 (by decide) ?_
  refine s_icne (tgt := 69) dL_acts_58 (by decide) (fun c => absurd rfl c) (fun _ => ?_)
  refine s_aloadn dL_acts_61 rfl rfl ?_
  refine s_iloadn dL_acts_62 rfl rfl ?_
  rcases hR with ⟨v, e, rfl⟩ | ⟨e, rfl⟩
  · refine s_cv1G (n := 64) dL_acts_63 rfl (kv hW.th (by decide) rfl) rfl (by decide) (by decide) (by decide) (by decide) (Nat.le_of_ble_eq_true rfl) (m_X3_thing hW hm) (fun r S1 hr => ?_) (fun x S1 hr => absurd (hr.1.trans e) (by intro h; cases h))
    have er := hr.1.trans e
    cases er
    refine s_goto (tgt := 73) dL_acts_66 (by decide) ?_
    exact s_reti dL_acts_73 rfl rfl ⟨rfl, by rw [e]; exact hr⟩
  · refine s_catch (n := 64) (as := [.int a]) (st := []) (x := 2) (pre := []) (suf := []) (sp := 0) (ep := 73) (ct := 18) (h := 74) (hn := 76) (j := 4) dL_acts_63 rfl (kv hW.th (by decide) rfl) rfl (by decide) (by decide) (by decide) (by decide) (Nat.le_of_ble_eq_true rfl) (m_X3_thing hW hm) (fun r S1 hr => absurd (hr.1.trans e) (by intro h; cases h)) (fun x' S1' hr => Sum.inr.inj (hr.1.trans e)) rfl (by decide) (by decide) (by decide) clkL_2 csaL_2 (fun z hz => absurd hz List.not_mem_nil) (by decide) (by decide) (Or.inr ⟨dL_acts_74, rfl⟩) (by decide) (fun S1 hr => ?_)
    refine s_bipush (v := (-2)) dL_acts_76 (by decide) ?_
    exact s_reti dL_acts_78 rfl rfl ⟨rfl, by rw [e]; exact hr⟩
set_option maxHeartbeats 4000000 in
theorem m_L_acts4 {tm : Nat × Nat} {S : Sto} {w : CAd} {c : CC} {a b : Int32} (hW : CW tm S w c) (hm : w.m = w.n) {R : Out} (hR : (∃ v : Int32, (f_X3_review w.n c).1 = .inl (some (.int v)) ∧ R = .inl (some (.int v))) ∨ ((f_X3_review w.n c).1 = .inr 2 ∧ R = .inl (some (.int (-2))))) : Ev tm M_L_acts [.ref w.th, .int a, .int b, .int 4] S (fun o S1 => o = R ∧ (PA tm w.th w.oa w.no w.nt S (f_X3_review w.n c)) (f_X3_review w.n c).1 S1) := by
  refine ev_in ok_L_acts (Nat.le_of_ble_eq_true rfl) ?_
  refine s_iloadn dL_acts_0 rfl rfl ?_
  refine s_ifne (tgt := 29) dL_acts_1 (by decide) (fun _ => ?_) (fun c => absurd c (by decide))
  refine s_iloadn dL_acts_29 rfl rfl ?_
  refine s_iconst (v := 1) dL_acts_30 (by decide) ?_
  refine s_icne (tgt := 43) dL_acts_31 (by decide) (fun _ => ?_) (fun c => absurd c (by decide))
  refine s_iloadn dL_acts_43 rfl rfl ?_
  refine s_iconst (v := 2) dL_acts_44 (by decide) ?_
  refine s_icne (tgt := 56) dL_acts_45 (by decide) (fun _ => ?_) (fun c => absurd c (by decide))
  refine s_iloadn dL_acts_56 rfl rfl ?_
  refine s_iconst (v := 3) dL_acts_57 (by decide) ?_
  refine s_icne (tgt := 69) dL_acts_58 (by decide) (fun _ => ?_) (fun c => absurd c (by decide))
  refine s_aloadn dL_acts_69 rfl rfl ?_
  rcases hR with ⟨v, e, rfl⟩ | ⟨e, rfl⟩
  · refine s_cv0G (n := 65) dL_acts_70 rfl (kv hW.th (by decide) rfl) rfl (by decide) (by decide) (by decide) (by decide) (Nat.le_of_ble_eq_true rfl) (m_X3_review hW hm) (fun r S1 hr => ?_) (fun x S1 hr => absurd (hr.1.trans e) (by intro h; cases h))
    have er := hr.1.trans e
    cases er
    exact s_reti dL_acts_73 rfl rfl ⟨rfl, by rw [e]; exact hr⟩
  · refine s_catch (n := 65) (as := []) (st := []) (x := 2) (pre := []) (suf := []) (sp := 0) (ep := 73) (ct := 18) (h := 74) (hn := 76) (j := 4) dL_acts_70 rfl (kv hW.th (by decide) rfl) rfl (by decide) (by decide) (by decide) (by decide) (Nat.le_of_ble_eq_true rfl) (m_X3_review hW hm) (fun r S1 hr => absurd (hr.1.trans e) (by intro h; cases h)) (fun x' S1' hr => Sum.inr.inj (hr.1.trans e)) rfl (by decide) (by decide) (by decide) clkL_2 csaL_2 (fun z hz => absurd hz List.not_mem_nil) (by decide) (by decide) (Or.inr ⟨dL_acts_74, rfl⟩) (by decide) (fun S1 hr => ?_)
    refine s_bipush (v := (-2)) dL_acts_76 (by decide) ?_
    exact s_reti dL_acts_78 rfl rfl ⟨rfl, by rw [e]; exact hr⟩
set_option maxHeartbeats 4000000 in
theorem m_L_draw {tm : Nat × Nat} {S : Sto} {sa j : Nat} (hk : sK S sa = 12) (hj : j < sN S sa) (hN : sN S sa < 2147483648) : Ev tm M_L_draw [.ref sa, .int (nI j)] S (Rt (some (.int (sI S sa j &&& 2147483647))) S) := by
  refine ev_in ok_L_draw (Nat.le_of_ble_eq_true rfl) ?_
  refine s_iloadn dL_draw_0 rfl rfl ?_
  refine s_aloadn dL_draw_1 rfl rfl ?_
  refine s_slen dL_draw_2 hk ?_
  refine s_icge (tgt := 15) dL_draw_3 (by decide) (fun c => absurd c (by rw [re_ile]; show ¬ (nI (sN S sa)).toInt ≤ _; rw [re_nI hN, re_nI (by omega)]; omega)) (fun c_3 => ?_)
  refine s_aloadn dL_draw_6 rfl rfl ?_
  refine s_iloadn dL_draw_7 rfl rfl ?_
  refine s_sald (a := sa) (i := nI j) dL_draw_8 hk (i_nI rfl hj hN).1 ?_
  rw [(i_nI (i := nI j) rfl hj hN).2]
  refine s_ldc (v := 2147483647) dL_draw_9 cstL_7 ?_
  refine s_iand dL_draw_11 ?_
  refine s_goto (tgt := 24) dL_draw_12 (by decide) ?_
  exact s_reti dL_draw_24 rfl rfl ⟨rfl, rfl⟩
def f_L_down (x y : Int64) : Int64 := if 0 ≤ x then x / y else (if (x - x / y * y) = 0 then x / y else x / y - 1)
set_option maxHeartbeats 4000000 in
theorem m_L_down {tm : Nat × Nat} {S : Sto} {x y : Int64} (hy : ¬ y = 0) : Ev tm M_L_down [.long x, .long y] S (Rt (some (.long (f_L_down x y))) S) := by
  refine ev_in ok_L_down (Nat.le_of_ble_eq_true rfl) ?_
  refine s_lloadn dL_down_0 rfl rfl ?_
  refine s_lconst (v := 0) dL_down_1 (by decide) ?_
  refine s_lcge (tgt := 14) dL_down_2 dL_down_3 (by decide) (fun c_2 => ?_) (fun c_2 => ?_)
  · skip
    refine s_lloadn dL_down_14 rfl rfl ?_
    refine s_lloadn dL_down_15 rfl rfl ?_
    refine s_ldiv dL_down_16 hy ?_
    refine s_goto (tgt := 25) dL_down_17 (by decide) ?_
    exact s_retl dL_down_25 rfl ⟨congrArg (fun z => Sum.inl (some (Value.long z))) (Eq.symm (by unfold f_L_down; rw [if_pos c_2])), rfl⟩
  · skip
    refine s_lloadn dL_down_6 rfl rfl ?_
    refine s_lloadn dL_down_7 rfl rfl ?_
    refine s_lrem dL_down_8 hy ?_
    refine s_lconst (v := 0) dL_down_9 (by decide) ?_
    refine s_lcne (tgt := 20) dL_down_10 dL_down_11 (by decide) (fun c_10 => ?_) (fun c_10 => ?_)
    · skip
      refine s_lloadn dL_down_20 rfl rfl ?_
      refine s_lloadn dL_down_21 rfl rfl ?_
      refine s_ldiv dL_down_22 hy ?_
      refine s_lconst (v := 1) dL_down_23 (by decide) ?_
      refine s_lsub dL_down_24 ?_
      exact s_retl dL_down_25 rfl ⟨congrArg (fun z => Sum.inl (some (Value.long z))) (Eq.symm (by unfold f_L_down; rw [if_neg c_2, if_neg c_10])), rfl⟩
    · skip
      refine s_lloadn dL_down_14 rfl rfl ?_
      refine s_lloadn dL_down_15 rfl rfl ?_
      refine s_ldiv dL_down_16 hy ?_
      refine s_goto (tgt := 25) dL_down_17 (by decide) ?_
      exact s_retl dL_down_25 rfl ⟨congrArg (fun z => Sum.inl (some (Value.long z))) (Eq.symm (by unfold f_L_down; rw [if_neg c_2, if_pos c_10])), rfl⟩
