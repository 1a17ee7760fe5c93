/-! THE LAW, 1: its wrappers -/
def lvI : Value → Int64
  | .int v => v.toInt64
  | .long v => v
  | _ => 0
def lvZ : Value → Int64
  | .int v => if v = 0 then 0 else 1
  | _ => 0
/-- what a wrapper answers and leaves -/
def LQ (f : Value → Int64) (P : Out → Sto → Prop) (F : Out) (l : List (Nat × Int32)) (oa : Nat) : Out → Sto → Prop := fun o S1 => ∃ S2, P F S2 ∧ ((∃ v, F = .inl (some v) ∧ o = .inl (some (.int 0)) ∧ S1 = uJ S2 oa 0 (f v)) ∨ (F = .inl none ∧ o = .inl (some (.int 0)) ∧ S1 = S2) ∨ ∃ p ∈ l, F = .inr p.1 ∧ o = .inl (some (.int p.2)) ∧ S1 = S2)
set_option maxRecDepth 20000 in
theorem clkL_1 : Cond.classLink RL 13 (exN 1) ∈ UW := uw (i := 192) rfl rfl
set_option maxRecDepth 20000 in
theorem clkL_2 : Cond.classLink RL 15 (exN 2) ∈ UW := uw (i := 193) rfl rfl
set_option maxRecDepth 20000 in
theorem clkL_3 : Cond.classLink RL 21 (exN 3) ∈ UW := uw (i := 429) rfl rfl
set_option maxRecDepth 20000 in
theorem cstL_1 : Cond.castable (exN 1) (exN 1) ∈ UW := uw (i := 203) rfl rfl
set_option maxRecDepth 20000 in
theorem cstL_2 : Cond.castable (exN 2) (exN 2) ∈ UW := uw (i := 276) rfl rfl
set_option maxRecDepth 20000 in
theorem cstL_3 : Cond.castable (exN 3) (exN 3) ∈ UW := uw (i := 440) rfl rfl
theorem PO.fr {tm : Nat × Nat} {w : CAd} {S S1 : Sto} {F : Out × CC} {o : Out} (h : PO tm w S F o S1) : FrC S S1 := h.2.2
theorem PA.fr {tm : Nat × Nat} {a no nt : Nat} {oa : Nat → Nat} {S S1 : Sto} {F : Out × Nat × CC} {o : Out} (h : PA tm a oa no nt S F o S1) : FrC S S1 := by
  obtain ⟨_, _, _, _, _, _, h⟩ := h; exact h
theorem PB.fr {tm : Nat × Nat} {a n0 nt : Nat} {ca : Nat → Nat} {S S1 : Sto} {F : Out × Nat × CC} {o : Out} (h : PB tm a n0 ca nt S F o S1) : FrC S S1 := by
  obtain ⟨_, _, _, _, _, _, _, h⟩ := h; exact h
theorem PG.fr {tm : Nat × Nat} {a n0 nt : Nat} {ca : Nat → Nat} {S S1 : Sto} {F : Out × Nat × CC} {o : Out} (h : PG tm a n0 ca nt S F o S1) : FrC S S1 := by
  obtain ⟨_, _, _, _, _, _, _, h⟩ := h; exact h
theorem FrC.out {S S1 : Sto} {oa : Nat} (f : FrC S S1) (hk : sK S oa = 11) (hn : sN S oa = 1) : sK S1 oa = 11 ∧ sN S1 oa = 1 := by
  obtain ⟨h1, h2, _⟩ := f oa (by rw [hk]; exact Or.inr (Or.inr (Or.inr ⟨by decide, by decide⟩)))
  exact ⟨h1.trans hk, h2.trans hn⟩

set_option maxHeartbeats 4000000 in
theorem m_L_claim {tm : Nat × Nat} {S : Sto} {w : CAd} {c : CC} {kd ld p q y rk sr z : Int32} {oa : Nat} (hk : sK S oa = 11) (hn : sN S oa = 1) (hW : CW tm S w c) (hm : w.m = w.n) (hz : z = 0 ∨ z = 1) {a th : Int32} (hO : CI [(1, 1), (2, 2)] (f_X3_claim w.n c kd ld p q y rk sr z).1 th a) : Ev tm M_L_claim [.ref w.th, .int kd, .int ld, .int p, .int q, .int y, .int rk, .int sr, .int z, .ref oa] S (LQ lvI (PA tm w.th w.oa w.no w.nt S (f_X3_claim w.n c kd ld p q y rk sr z)) (f_X3_claim w.n c kd ld p q y rk sr z).1 [(1, 1), (2, 2)] oa) := by
  refine ev_in ok_L_claim (Nat.le_of_ble_eq_true rfl) ?_
  refine s_aload dL_claim_0 rfl ?_
  refine s_iconst (v := 0) dL_claim_2 (by decide) ?_
  refine s_aloadn dL_claim_3 rfl rfl ?_
  refine s_iloadn dL_claim_4 rfl rfl ?_
  refine s_iloadn dL_claim_5 rfl rfl ?_
  refine s_iloadn dL_claim_6 rfl rfl ?_
  refine s_iload dL_claim_7 rfl ?_
  refine s_iload dL_claim_9 rfl ?_
  refine s_iload dL_claim_11 rfl ?_
  refine s_iload dL_claim_13 rfl ?_
  refine s_iload dL_claim_15 rfl ?_
  rcases hO with ⟨e, -⟩ | ⟨p, hp, e, -⟩
  · refine s_cv8G (n := 72) dL_claim_17 rfl (kv hW.th (by decide) rfl) rfl (by decide) (by decide) (by decide) (by decide) (Nat.le_of_ble_eq_true rfl) (m_X3_claim hW hm hz) (fun r S1 hr => ?_) (fun x S1 hr => absurd (hr.1.trans e) (by intro h; cases h))
    have er := hr.1.trans e
    cases er
    obtain ⟨fk, fn⟩ := (PA.fr hr).out hk hn
    refine s_i2l dL_claim_20 ?_
    refine s_last' (j := 0) dL_claim_21 (Or.inr (Or.inr fk)) rfl (by rw [fn]; decide) (by rw [fn]; decide) ?_
    refine s_goto (tgt := 33) dL_claim_22 (by decide) ?_
    refine s_iconst (v := 0) dL_claim_33 (by decide) ?_
    exact s_reti dL_claim_34 rfl rfl ⟨S1, by rw [← e] at hr; exact hr, Or.inl ⟨_, e, rfl, rfl⟩⟩
  · have hp2 := hp
    rcases List.mem_cons.mp hp with rfl | hp
    · refine s_catch (n := 72) (as := [.int kd, .int ld, .int p, .int q, .int y, .int rk, .int sr, .int z]) (st := [.int 0, .ref oa]) (x := 1) (pre := []) (suf := [(0, (22, (29, 15)))]) (sp := 0) (ep := 22) (ct := 13) (h := 25) (hn := 27) (j := 10) dL_claim_17 rfl (kv hW.th (by decide) rfl) rfl (by decide) (by decide) (by decide) (by decide) (Nat.le_of_ble_eq_true rfl) (m_X3_claim hW hm hz) (fun r S1 hr => absurd (hr.1.trans e) (by intro h; cases h)) (fun x' S1' hr => Sum.inr.inj (hr.1.trans e)) rfl (by decide) (by decide) (by decide) clkL_1 cstL_1 (fun z hz => absurd hz List.not_mem_nil) (by decide) (by decide) (Or.inr ⟨dL_claim_25, rfl⟩) (by decide) (fun S1 hr => ?_)
      refine s_iconst (v := 1) dL_claim_27 (by decide) ?_
      exact s_reti dL_claim_28 rfl rfl ⟨S1, by rw [e]; exact hr, Or.inr (Or.inr ⟨_, hp2, e, rfl, rfl⟩)⟩
    rcases List.mem_cons.mp hp with rfl | hp
    · refine s_catch (n := 72) (as := [.int kd, .int ld, .int p, .int q, .int y, .int rk, .int sr, .int z]) (st := [.int 0, .ref oa]) (x := 2) (pre := [(0, (22, (25, 13)))]) (suf := []) (sp := 0) (ep := 22) (ct := 15) (h := 29) (hn := 31) (j := 10) dL_claim_17 rfl (kv hW.th (by decide) rfl) rfl (by decide) (by decide) (by decide) (by decide) (Nat.le_of_ble_eq_true rfl) (m_X3_claim hW hm hz) (fun r S1 hr => absurd (hr.1.trans e) (by intro h; cases h)) (fun x' S1' hr => Sum.inr.inj (hr.1.trans e)) rfl (by decide) (by decide) (by decide) clkL_2 cstL_2 (fun z hz => by rcases List.mem_cons.mp hz with rfl | hz; exact ⟨by decide, 1, by decide, by decide, by decide, clkL_1⟩; exact absurd hz List.not_mem_nil) (by decide) (by decide) (Or.inr ⟨dL_claim_29, rfl⟩) (by decide) (fun S1 hr => ?_)
      refine s_iconst (v := 2) dL_claim_31 (by decide) ?_
      exact s_reti dL_claim_32 rfl rfl ⟨S1, by rw [e]; exact hr, Or.inr (Or.inr ⟨_, hp2, e, rfl, rfl⟩)⟩
    exact absurd hp List.not_mem_nil
set_option maxHeartbeats 4000000 in
theorem m_L_pledge {tm : Nat × Nat} {S : Sto} {w : CAd} {c : CC} {k x : Int32} {oa : Nat} (hk : sK S oa = 11) (hn : sN S oa = 1) (hW : CW tm S w c)  {a : Int64} {th : Int32} (hO : CJ [(3, 1), (1, 2), (2, 3)] (f_X3_pledge w.n c k x).1 th a) : Ev tm M_L_pledge [.ref w.th, .int k, .int x, .ref oa] S (LQ lvI (PO tm w S (f_X3_pledge w.n c k x)) (f_X3_pledge w.n c k x).1 [(3, 1), (1, 2), (2, 3)] oa) := by
  refine ev_in ok_L_pledge (Nat.le_of_ble_eq_true rfl) ?_
  refine s_aloadn dL_pledge_0 rfl rfl ?_
  refine s_iconst (v := 0) dL_pledge_1 (by decide) ?_
  refine s_aloadn dL_pledge_2 rfl rfl ?_
  refine s_iloadn dL_pledge_3 rfl rfl ?_
  refine s_iloadn dL_pledge_4 rfl rfl ?_
  rcases hO with ⟨e, -⟩ | ⟨p, hp, e, -⟩
  · refine s_cv2G (n := 73) dL_pledge_5 rfl (kv hW.th (by decide) rfl) rfl (by decide) (by decide) (by decide) (by decide) (Nat.le_of_ble_eq_true rfl) (m_X3_pledge hW) (fun r S1 hr => ?_) (fun x S1 hr => absurd (hr.1.trans e) (by intro h; cases h))
    have er := hr.1.trans e
    cases er
    obtain ⟨fk, fn⟩ := (PO.fr hr).out hk hn
    refine s_last' (j := 0) dL_pledge_8 (Or.inr (Or.inr fk)) rfl (by rw [fn]; decide) (by rw [fn]; decide) ?_
    refine s_goto (tgt := 24) dL_pledge_9 (by decide) ?_
    refine s_iconst (v := 0) dL_pledge_24 (by decide) ?_
    exact s_reti dL_pledge_25 rfl rfl ⟨S1, by rw [← e] at hr; exact hr, Or.inl ⟨_, e, rfl, rfl⟩⟩
  · have hp2 := hp
    rcases List.mem_cons.mp hp with rfl | hp
    · refine s_catch (n := 73) (as := [.int k, .int x]) (st := [.int 0, .ref oa]) (x := 3) (pre := []) (suf := [(0, (9, (16, 13))), (0, (9, (20, 15)))]) (sp := 0) (ep := 9) (ct := 21) (h := 12) (hn := 14) (j := 4) dL_pledge_5 rfl (kv hW.th (by decide) rfl) rfl (by decide) (by decide) (by decide) (by decide) (Nat.le_of_ble_eq_true rfl) (m_X3_pledge hW) (fun r S1 hr => absurd (hr.1.trans e) (by intro h; cases h)) (fun x' S1' hr => Sum.inr.inj (hr.1.trans e)) rfl (by decide) (by decide) (by decide) clkL_3 cstL_3 (fun z hz => absurd hz List.not_mem_nil) (by decide) (by decide) (Or.inr ⟨dL_pledge_12, rfl⟩) (by decide) (fun S1 hr => ?_)
      refine s_iconst (v := 1) dL_pledge_14 (by decide) ?_
      exact s_reti dL_pledge_15 rfl rfl ⟨S1, by rw [e]; exact hr, Or.inr (Or.inr ⟨_, hp2, e, rfl, rfl⟩)⟩
    rcases List.mem_cons.mp hp with rfl | hp
    · refine s_catch (n := 73) (as := [.int k, .int x]) (st := [.int 0, .ref oa]) (x := 1) (pre := [(0, (9, (12, 21)))]) (suf := [(0, (9, (20, 15)))]) (sp := 0) (ep := 9) (ct := 13) (h := 16) (hn := 18) (j := 4) dL_pledge_5 rfl (kv hW.th (by decide) rfl) rfl (by decide) (by decide) (by decide) (by decide) (Nat.le_of_ble_eq_true rfl) (m_X3_pledge hW) (fun r S1 hr => absurd (hr.1.trans e) (by intro h; cases h)) (fun x' S1' hr => Sum.inr.inj (hr.1.trans e)) rfl (by decide) (by decide) (by decide) clkL_1 cstL_1 (fun z hz => by rcases List.mem_cons.mp hz with rfl | hz; exact ⟨by decide, 3, by decide, by decide, by decide, clkL_3⟩; exact absurd hz List.not_mem_nil) (by decide) (by decide) (Or.inr ⟨dL_pledge_16, rfl⟩) (by decide) (fun S1 hr => ?_)
      refine s_iconst (v := 2) dL_pledge_18 (by decide) ?_
      exact s_reti dL_pledge_19 rfl rfl ⟨S1, by rw [e]; exact hr, Or.inr (Or.inr ⟨_, hp2, e, rfl, rfl⟩)⟩
    rcases List.mem_cons.mp hp with rfl | hp
    · refine s_catch (n := 73) (as := [.int k, .int x]) (st := [.int 0, .ref oa]) (x := 2) (pre := [(0, (9, (12, 21))), (0, (9, (16, 13)))]) (suf := []) (sp := 0) (ep := 9) (ct := 15) (h := 20) (hn := 22) (j := 4) dL_pledge_5 rfl (kv hW.th (by decide) rfl) rfl (by decide) (by decide) (by decide) (by decide) (Nat.le_of_ble_eq_true rfl) (m_X3_pledge hW) (fun r S1 hr => absurd (hr.1.trans e) (by intro h; cases h)) (fun x' S1' hr => Sum.inr.inj (hr.1.trans e)) rfl (by decide) (by decide) (by decide) clkL_2 cstL_2 (fun z hz => by rcases List.mem_cons.mp hz with rfl | hz; exact ⟨by decide, 3, by decide, by decide, by decide, clkL_3⟩; rcases List.mem_cons.mp hz with rfl | hz; exact ⟨by decide, 1, by decide, by decide, by decide, clkL_1⟩; exact absurd hz List.not_mem_nil) (by decide) (by decide) (Or.inr ⟨dL_pledge_20, rfl⟩) (by decide) (fun S1 hr => ?_)
      refine s_iconst (v := 3) dL_pledge_22 (by decide) ?_
      exact s_reti dL_pledge_23 rfl rfl ⟨S1, by rw [e]; exact hr, Or.inr (Or.inr ⟨_, hp2, e, rfl, rfl⟩)⟩
    exact absurd hp List.not_mem_nil
set_option maxHeartbeats 4000000 in
theorem m_L_reveal {tm : Nat × Nat} {S : Sto} {w : CAd} {c : CC} {k : Int32} {oa : Nat} (hk : sK S oa = 11) (hn : sN S oa = 1) (hW : CW tm S w c)  {a : Int64} {th : Int32} (hO : CJ [(3, 1), (2, 2)] (f_X3_reveal w.n c k).1 th a) : Ev tm M_L_reveal [.ref w.th, .int k, .ref oa] S (LQ lvI (PO tm w S (f_X3_reveal w.n c k)) (f_X3_reveal w.n c k).1 [(3, 1), (2, 2)] oa) := by
  refine ev_in ok_L_reveal (Nat.le_of_ble_eq_true rfl) ?_
  refine s_aloadn dL_reveal_0 rfl rfl ?_
  refine s_iconst (v := 0) dL_reveal_1 (by decide) ?_
  refine s_aloadn dL_reveal_2 rfl rfl ?_
  refine s_iloadn dL_reveal_3 rfl rfl ?_
  rcases hO with ⟨e, -⟩ | ⟨p, hp, e, -⟩
  · refine s_cv1G (n := 74) dL_reveal_4 rfl (kv hW.th (by decide) rfl) rfl (by decide) (by decide) (by decide) (by decide) (Nat.le_of_ble_eq_true rfl) (m_X3_reveal hW) (fun r S1 hr => ?_) (fun x S1 hr => absurd (hr.1.trans e) (by intro h; cases h))
    have er := hr.1.trans e
    cases er
    obtain ⟨fk, fn⟩ := (PO.fr hr).out hk hn
    refine s_last' (j := 0) dL_reveal_7 (Or.inr (Or.inr fk)) rfl (by rw [fn]; decide) (by rw [fn]; decide) ?_
    refine s_goto (tgt := 17) dL_reveal_8 (by decide) ?_
    refine s_iconst (v := 0) dL_reveal_17 (by decide) ?_
    exact s_reti dL_reveal_18 rfl rfl ⟨S1, by rw [← e] at hr; exact hr, Or.inl ⟨_, e, rfl, rfl⟩⟩
  · have hp2 := hp
    rcases List.mem_cons.mp hp with rfl | hp
    · refine s_catch (n := 74) (as := [.int k]) (st := [.int 0, .ref oa]) (x := 3) (pre := []) (suf := [(0, (8, (14, 15)))]) (sp := 0) (ep := 8) (ct := 21) (h := 11) (hn := 12) (j := 3) dL_reveal_4 rfl (kv hW.th (by decide) rfl) rfl (by decide) (by decide) (by decide) (by decide) (Nat.le_of_ble_eq_true rfl) (m_X3_reveal hW) (fun r S1 hr => absurd (hr.1.trans e) (by intro h; cases h)) (fun x' S1' hr => Sum.inr.inj (hr.1.trans e)) rfl (by decide) (by decide) (by decide) clkL_3 cstL_3 (fun z hz => absurd hz List.not_mem_nil) (by decide) (by decide) (Or.inl ⟨3, dL_reveal_11, rfl, rfl⟩) (by decide) (fun S1 hr => ?_)
      refine s_iconst (v := 1) dL_reveal_12 (by decide) ?_
      exact s_reti dL_reveal_13 rfl rfl ⟨S1, by rw [e]; exact hr, Or.inr (Or.inr ⟨_, hp2, e, rfl, rfl⟩)⟩
    rcases List.mem_cons.mp hp with rfl | hp
    · refine s_catch (n := 74) (as := [.int k]) (st := [.int 0, .ref oa]) (x := 2) (pre := [(0, (8, (11, 21)))]) (suf := []) (sp := 0) (ep := 8) (ct := 15) (h := 14) (hn := 15) (j := 3) dL_reveal_4 rfl (kv hW.th (by decide) rfl) rfl (by decide) (by decide) (by decide) (by decide) (Nat.le_of_ble_eq_true rfl) (m_X3_reveal hW) (fun r S1 hr => absurd (hr.1.trans e) (by intro h; cases h)) (fun x' S1' hr => Sum.inr.inj (hr.1.trans e)) rfl (by decide) (by decide) (by decide) clkL_2 cstL_2 (fun z hz => by rcases List.mem_cons.mp hz with rfl | hz; exact ⟨by decide, 3, by decide, by decide, by decide, clkL_3⟩; exact absurd hz List.not_mem_nil) (by decide) (by decide) (Or.inl ⟨3, dL_reveal_14, rfl, rfl⟩) (by decide) (fun S1 hr => ?_)
      refine s_iconst (v := 2) dL_reveal_15 (by decide) ?_
      exact s_reti dL_reveal_16 rfl rfl ⟨S1, by rw [e]; exact hr, Or.inr (Or.inr ⟨_, hp2, e, rfl, rfl⟩)⟩
    exact absurd hp List.not_mem_nil
set_option maxHeartbeats 4000000 in
theorem m_L_economy {tm : Nat × Nat} {S : Sto} {w : CAd} {c : CC} {g b x : Int32} {oa : Nat} (hk : sK S oa = 11) (hn : sN S oa = 1) (hW : CW tm S w c)  {a : Int64} {th : Int32} (hO : CJ [(1, 1)] (f_X3_economy c g b x).1 th a) : Ev tm M_L_economy [.ref w.th, .int g, .int b, .int x, .ref oa] S (LQ lvI (PO tm w S (f_X3_economy c g b x)) (f_X3_economy c g b x).1 [(1, 1)] oa) := by
  refine ev_in ok_L_economy (Nat.le_of_ble_eq_true rfl) ?_
  refine s_aload dL_economy_0 rfl ?_
  refine s_iconst (v := 0) dL_economy_2 (by decide) ?_
  refine s_aloadn dL_economy_3 rfl rfl ?_
  refine s_iloadn dL_economy_4 rfl rfl ?_
  refine s_iloadn dL_economy_5 rfl rfl ?_
  refine s_iloadn dL_economy_6 rfl rfl ?_
  rcases hO with ⟨e, -⟩ | ⟨p, hp, e, -⟩
  · refine s_cv3G (n := 75) dL_economy_7 rfl (kv hW.th (by decide) rfl) rfl (by decide) (by decide) (by decide) (by decide) (Nat.le_of_ble_eq_true rfl) (m_X3_economy hW) (fun r S1 hr => ?_) (fun x S1 hr => absurd (hr.1.trans e) (by intro h; cases h))
    have er := hr.1.trans e
    cases er
    obtain ⟨fk, fn⟩ := (PO.fr hr).out hk hn
    refine s_last' (j := 0) dL_economy_10 (Or.inr (Or.inr fk)) rfl (by rw [fn]; decide) (by rw [fn]; decide) ?_
    refine s_goto (tgt := 18) dL_economy_11 (by decide) ?_
    refine s_iconst (v := 0) dL_economy_18 (by decide) ?_
    exact s_reti dL_economy_19 rfl rfl ⟨S1, by rw [← e] at hr; exact hr, Or.inl ⟨_, e, rfl, rfl⟩⟩
  · have hp2 := hp
    rcases List.mem_cons.mp hp with rfl | hp
    · refine s_catch (n := 75) (as := [.int g, .int b, .int x]) (st := [.int 0, .ref oa]) (x := 1) (pre := []) (suf := []) (sp := 0) (ep := 11) (ct := 13) (h := 14) (hn := 16) (j := 5) dL_economy_7 rfl (kv hW.th (by decide) rfl) rfl (by decide) (by decide) (by decide) (by decide) (Nat.le_of_ble_eq_true rfl) (m_X3_economy hW) (fun r S1 hr => absurd (hr.1.trans e) (by intro h; cases h)) (fun x' S1' hr => Sum.inr.inj (hr.1.trans e)) rfl (by decide) (by decide) (by decide) clkL_1 cstL_1 (fun z hz => absurd hz List.not_mem_nil) (by decide) (by decide) (Or.inr ⟨dL_economy_14, rfl⟩) (by decide) (fun S1 hr => ?_)
      refine s_iconst (v := 1) dL_economy_16 (by decide) ?_
      exact s_reti dL_economy_17 rfl rfl ⟨S1, by rw [e]; exact hr, Or.inr (Or.inr ⟨_, hp2, e, rfl, rfl⟩)⟩
    exact absurd hp List.not_mem_nil
set_option maxHeartbeats 4000000 in
theorem m_L_moratorium {tm : Nat × Nat} {S : Sto} {w : CAd} {c : CC} {k z : Int32} {oa : Nat} (hk : sK S oa = 11) (hn : sN S oa = 1) (hW : CW tm S w c) (hz : z = 0 ∨ z = 1) {a th : Int32} (hO : CI [(3, 1)] (f_X3_moratorium c k z).1 th a) : Ev tm M_L_moratorium [.ref w.th, .int k, .int z, .ref oa] S (LQ lvZ (PO tm w S (f_X3_moratorium c k z)) (f_X3_moratorium c k z).1 [(3, 1)] oa) := by
  refine ev_in ok_L_moratorium (Nat.le_of_ble_eq_true rfl) ?_
  refine s_aloadn dL_moratorium_0 rfl rfl ?_
  refine s_iconst (v := 0) dL_moratorium_1 (by decide) ?_
  refine s_aloadn dL_moratorium_2 rfl rfl ?_
  refine s_iloadn dL_moratorium_3 rfl rfl ?_
  refine s_iloadn dL_moratorium_4 rfl rfl ?_
  rcases hO with ⟨e, -⟩ | ⟨p, hp, e, -⟩
  · refine s_cv2G (n := 76) dL_moratorium_5 rfl (kv hW.th (by decide) rfl) rfl (by decide) (by decide) (by decide) (by decide) (Nat.le_of_ble_eq_true rfl) (m_X3_moratorium hW hz) (fun r S1 hr => ?_) (fun x S1 hr => absurd (hr.1.trans e) (by intro h; cases h))
    have er := hr.1.trans e
    cases er
    obtain ⟨fk, fn⟩ := (PO.fr hr).out hk hn
    refine s_ifeq (tgt := 15) dL_moratorium_8 (by decide) (fun c0 => ?_) (fun c0 => ?_)
    · refine s_lconst (v := 0) dL_moratorium_15 (by decide) ?_
      refine s_last' (j := 0) dL_moratorium_16 (Or.inr (Or.inr fk)) rfl (by rw [fn]; decide) (by rw [fn]; decide) ?_
      refine s_goto (tgt := 24) dL_moratorium_17 (by decide) ?_
      refine s_iconst (v := 0) dL_moratorium_24 (by decide) ?_
      exact s_reti dL_moratorium_25 rfl rfl ⟨S1, by rw [← e] at hr; exact hr, Or.inl ⟨_, e, rfl, by rw [show lvZ (.int a) = 0 from if_pos c0]⟩⟩
    · refine s_lconst (v := 1) dL_moratorium_11 (by decide) ?_
      refine s_goto (tgt := 16) dL_moratorium_12 (by decide) ?_
      refine s_last' (j := 0) dL_moratorium_16 (Or.inr (Or.inr fk)) rfl (by rw [fn]; decide) (by rw [fn]; decide) ?_
      refine s_goto (tgt := 24) dL_moratorium_17 (by decide) ?_
      refine s_iconst (v := 0) dL_moratorium_24 (by decide) ?_
      exact s_reti dL_moratorium_25 rfl rfl ⟨S1, by rw [← e] at hr; exact hr, Or.inl ⟨_, e, rfl, by rw [show lvZ (.int a) = 1 from if_neg c0]⟩⟩
  · have hp2 := hp
    rcases List.mem_cons.mp hp with rfl | hp
    · refine s_catch (n := 76) (as := [.int k, .int z]) (st := [.int 0, .ref oa]) (x := 3) (pre := []) (suf := []) (sp := 0) (ep := 17) (ct := 21) (h := 20) (hn := 22) (j := 4) dL_moratorium_5 rfl (kv hW.th (by decide) rfl) rfl (by decide) (by decide) (by decide) (by decide) (Nat.le_of_ble_eq_true rfl) (m_X3_moratorium hW hz) (fun r S1 hr => absurd (hr.1.trans e) (by intro h; cases h)) (fun x' S1' hr => Sum.inr.inj (hr.1.trans e)) rfl (by decide) (by decide) (by decide) clkL_3 cstL_3 (fun z hz => absurd hz List.not_mem_nil) (by decide) (by decide) (Or.inr ⟨dL_moratorium_20, rfl⟩) (by decide) (fun S1 hr => ?_)
      refine s_iconst (v := 1) dL_moratorium_22 (by decide) ?_
      exact s_reti dL_moratorium_23 rfl rfl ⟨S1, by rw [e]; exact hr, Or.inr (Or.inr ⟨_, hp2, e, rfl, rfl⟩)⟩
    exact absurd hp List.not_mem_nil
set_option maxHeartbeats 4000000 in
theorem m_L_year {tm : Nat × Nat} {S : Sto} {w : CAd} {c : CC} {y : Int32} {oa : Nat} (hk : sK S oa = 11) (hn : sN S oa = 1) (hW : CW tm S w c)  {a : Int64} {th : Int32} (hO : CJ [(1, 1), (2, 2)] (f_X3_year w.n c y).1 th a) : Ev tm M_L_year [.ref w.th, .int y, .ref oa] S (LQ lvI (PO tm w S (f_X3_year w.n c y)) (f_X3_year w.n c y).1 [(1, 1), (2, 2)] oa) := by
  refine ev_in ok_L_year (Nat.le_of_ble_eq_true rfl) ?_
  refine s_aloadn dL_year_0 rfl rfl ?_
  refine s_iconst (v := 0) dL_year_1 (by decide) ?_
  refine s_aloadn dL_year_2 rfl rfl ?_
  refine s_iloadn dL_year_3 rfl rfl ?_
  rcases hO with ⟨e, -⟩ | ⟨p, hp, e, -⟩
  · refine s_cv1G (n := 77) dL_year_4 rfl (kv hW.th (by decide) rfl) rfl (by decide) (by decide) (by decide) (by decide) (Nat.le_of_ble_eq_true rfl) (m_X3_year hW) (fun r S1 hr => ?_) (fun x S1 hr => absurd (hr.1.trans e) (by intro h; cases h))
    have er := hr.1.trans e
    cases er
    obtain ⟨fk, fn⟩ := (PO.fr hr).out hk hn
    refine s_last' (j := 0) dL_year_7 (Or.inr (Or.inr fk)) rfl (by rw [fn]; decide) (by rw [fn]; decide) ?_
    refine s_goto (tgt := 17) dL_year_8 (by decide) ?_
    refine s_iconst (v := 0) dL_year_17 (by decide) ?_
    exact s_reti dL_year_18 rfl rfl ⟨S1, by rw [← e] at hr; exact hr, Or.inl ⟨_, e, rfl, rfl⟩⟩
  · have hp2 := hp
    rcases List.mem_cons.mp hp with rfl | hp
    · refine s_catch (n := 77) (as := [.int y]) (st := [.int 0, .ref oa]) (x := 1) (pre := []) (suf := [(0, (8, (14, 15)))]) (sp := 0) (ep := 8) (ct := 13) (h := 11) (hn := 12) (j := 3) dL_year_4 rfl (kv hW.th (by decide) rfl) rfl (by decide) (by decide) (by decide) (by decide) (Nat.le_of_ble_eq_true rfl) (m_X3_year hW) (fun r S1 hr => absurd (hr.1.trans e) (by intro h; cases h)) (fun x' S1' hr => Sum.inr.inj (hr.1.trans e)) rfl (by decide) (by decide) (by decide) clkL_1 cstL_1 (fun z hz => absurd hz List.not_mem_nil) (by decide) (by decide) (Or.inl ⟨3, dL_year_11, rfl, rfl⟩) (by decide) (fun S1 hr => ?_)
      refine s_iconst (v := 1) dL_year_12 (by decide) ?_
      exact s_reti dL_year_13 rfl rfl ⟨S1, by rw [e]; exact hr, Or.inr (Or.inr ⟨_, hp2, e, rfl, rfl⟩)⟩
    rcases List.mem_cons.mp hp with rfl | hp
    · refine s_catch (n := 77) (as := [.int y]) (st := [.int 0, .ref oa]) (x := 2) (pre := [(0, (8, (11, 13)))]) (suf := []) (sp := 0) (ep := 8) (ct := 15) (h := 14) (hn := 15) (j := 3) dL_year_4 rfl (kv hW.th (by decide) rfl) rfl (by decide) (by decide) (by decide) (by decide) (Nat.le_of_ble_eq_true rfl) (m_X3_year hW) (fun r S1 hr => absurd (hr.1.trans e) (by intro h; cases h)) (fun x' S1' hr => Sum.inr.inj (hr.1.trans e)) rfl (by decide) (by decide) (by decide) clkL_2 cstL_2 (fun z hz => by rcases List.mem_cons.mp hz with rfl | hz; exact ⟨by decide, 1, by decide, by decide, by decide, clkL_1⟩; exact absurd hz List.not_mem_nil) (by decide) (by decide) (Or.inl ⟨3, dL_year_14, rfl, rfl⟩) (by decide) (fun S1 hr => ?_)
      refine s_iconst (v := 2) dL_year_15 (by decide) ?_
      exact s_reti dL_year_16 rfl rfl ⟨S1, by rw [e]; exact hr, Or.inr (Or.inr ⟨_, hp2, e, rfl, rfl⟩)⟩
    exact absurd hp List.not_mem_nil
set_option maxHeartbeats 4000000 in
theorem m_L_discount {tm : Nat × Nat} {S : Sto} {w : CAd} {c : CC} {r : Int32} {oa : Nat} (hk : sK S oa = 11) (hn : sN S oa = 1) (hW : CW tm S w c)  {a th : Int32} (hO : CI [(1, 1)] (f_X3_discount c r).1 th a) : Ev tm M_L_discount [.ref w.th, .int r, .ref oa] S (LQ lvI (PO tm w S (f_X3_discount c r)) (f_X3_discount c r).1 [(1, 1)] oa) := by
  refine ev_in ok_L_discount (Nat.le_of_ble_eq_true rfl) ?_
  refine s_aloadn dL_discount_0 rfl rfl ?_
  refine s_iconst (v := 0) dL_discount_1 (by decide) ?_
  refine s_aloadn dL_discount_2 rfl rfl ?_
  refine s_iloadn dL_discount_3 rfl rfl ?_
  rcases hO with ⟨e, -⟩ | ⟨p, hp, e, -⟩
  · refine s_cv1G (n := 78) dL_discount_4 rfl (kv hW.th (by decide) rfl) rfl (by decide) (by decide) (by decide) (by decide) (Nat.le_of_ble_eq_true rfl) (m_X3_discount hW) (fun r S1 hr => ?_) (fun x S1 hr => absurd (hr.1.trans e) (by intro h; cases h))
    have er := hr.1.trans e
    cases er
    obtain ⟨fk, fn⟩ := (PO.fr hr).out hk hn
    refine s_i2l dL_discount_7 ?_
    refine s_last' (j := 0) dL_discount_8 (Or.inr (Or.inr fk)) rfl (by rw [fn]; decide) (by rw [fn]; decide) ?_
    refine s_goto (tgt := 15) dL_discount_9 (by decide) ?_
    refine s_iconst (v := 0) dL_discount_15 (by decide) ?_
    exact s_reti dL_discount_16 rfl rfl ⟨S1, by rw [← e] at hr; exact hr, Or.inl ⟨_, e, rfl, rfl⟩⟩
  · have hp2 := hp
    rcases List.mem_cons.mp hp with rfl | hp
    · refine s_catch (n := 78) (as := [.int r]) (st := [.int 0, .ref oa]) (x := 1) (pre := []) (suf := []) (sp := 0) (ep := 9) (ct := 13) (h := 12) (hn := 13) (j := 3) dL_discount_4 rfl (kv hW.th (by decide) rfl) rfl (by decide) (by decide) (by decide) (by decide) (Nat.le_of_ble_eq_true rfl) (m_X3_discount hW) (fun r S1 hr => absurd (hr.1.trans e) (by intro h; cases h)) (fun x' S1' hr => Sum.inr.inj (hr.1.trans e)) rfl (by decide) (by decide) (by decide) clkL_1 cstL_1 (fun z hz => absurd hz List.not_mem_nil) (by decide) (by decide) (Or.inl ⟨3, dL_discount_12, rfl, rfl⟩) (by decide) (fun S1 hr => ?_)
      refine s_iconst (v := 1) dL_discount_13 (by decide) ?_
      exact s_reti dL_discount_14 rfl rfl ⟨S1, by rw [e]; exact hr, Or.inr (Or.inr ⟨_, hp2, e, rfl, rfl⟩)⟩
    exact absurd hp List.not_mem_nil
set_option maxHeartbeats 4000000 in
theorem m_L_offer {tm : Nat × Nat} {S : Sto} {w : CAd} {c : CC} {a1 q y : Int32} {oa : Nat} (hk : sK S oa = 11) (hn : sN S oa = 1) (hW : CW tm S w c) (hm : w.m = w.n) {a th : Int32} (hO : CI [(1, 1), (2, 2)] (f_X3_offer w.no c a1 q y).1 th a) : Ev tm M_L_offer [.ref w.th, .int a1, .int q, .int y, .ref oa] S (LQ lvI (PB tm w.th w.n w.ca w.nt S (f_X3_offer w.no c a1 q y)) (f_X3_offer w.no c a1 q y).1 [(1, 1), (2, 2)] oa) := by
  refine ev_in ok_L_offer (Nat.le_of_ble_eq_true rfl) ?_
  refine s_aload dL_offer_0 rfl ?_
  refine s_iconst (v := 0) dL_offer_2 (by decide) ?_
  refine s_aloadn dL_offer_3 rfl rfl ?_
  refine s_iloadn dL_offer_4 rfl rfl ?_
  refine s_iloadn dL_offer_5 rfl rfl ?_
  refine s_iloadn dL_offer_6 rfl rfl ?_
  rcases hO with ⟨e, -⟩ | ⟨p, hp, e, -⟩
  · refine s_cv3G (n := 79) dL_offer_7 rfl (kv hW.th (by decide) rfl) rfl (by decide) (by decide) (by decide) (by decide) (Nat.le_of_ble_eq_true rfl) (m_X3_offer hW hm) (fun r S1 hr => ?_) (fun x S1 hr => absurd (hr.1.trans e) (by intro h; cases h))
    have er := hr.1.trans e
    cases er
    obtain ⟨fk, fn⟩ := (PB.fr hr).out hk hn
    refine s_i2l dL_offer_10 ?_
    refine s_last' (j := 0) dL_offer_11 (Or.inr (Or.inr fk)) rfl (by rw [fn]; decide) (by rw [fn]; decide) ?_
    refine s_goto (tgt := 23) dL_offer_12 (by decide) ?_
    refine s_iconst (v := 0) dL_offer_23 (by decide) ?_
    exact s_reti dL_offer_24 rfl rfl ⟨S1, by rw [← e] at hr; exact hr, Or.inl ⟨_, e, rfl, rfl⟩⟩
  · have hp2 := hp
    rcases List.mem_cons.mp hp with rfl | hp
    · refine s_catch (n := 79) (as := [.int a1, .int q, .int y]) (st := [.int 0, .ref oa]) (x := 1) (pre := []) (suf := [(0, (12, (19, 15)))]) (sp := 0) (ep := 12) (ct := 13) (h := 15) (hn := 17) (j := 5) dL_offer_7 rfl (kv hW.th (by decide) rfl) rfl (by decide) (by decide) (by decide) (by decide) (Nat.le_of_ble_eq_true rfl) (m_X3_offer hW hm) (fun r S1 hr => absurd (hr.1.trans e) (by intro h; cases h)) (fun x' S1' hr => Sum.inr.inj (hr.1.trans e)) rfl (by decide) (by decide) (by decide) clkL_1 cstL_1 (fun z hz => absurd hz List.not_mem_nil) (by decide) (by decide) (Or.inr ⟨dL_offer_15, rfl⟩) (by decide) (fun S1 hr => ?_)
      refine s_iconst (v := 1) dL_offer_17 (by decide) ?_
      exact s_reti dL_offer_18 rfl rfl ⟨S1, by rw [e]; exact hr, Or.inr (Or.inr ⟨_, hp2, e, rfl, rfl⟩)⟩
    rcases List.mem_cons.mp hp with rfl | hp
    · refine s_catch (n := 79) (as := [.int a1, .int q, .int y]) (st := [.int 0, .ref oa]) (x := 2) (pre := [(0, (12, (15, 13)))]) (suf := []) (sp := 0) (ep := 12) (ct := 15) (h := 19) (hn := 21) (j := 5) dL_offer_7 rfl (kv hW.th (by decide) rfl) rfl (by decide) (by decide) (by decide) (by decide) (Nat.le_of_ble_eq_true rfl) (m_X3_offer hW hm) (fun r S1 hr => absurd (hr.1.trans e) (by intro h; cases h)) (fun x' S1' hr => Sum.inr.inj (hr.1.trans e)) rfl (by decide) (by decide) (by decide) clkL_2 cstL_2 (fun z hz => by rcases List.mem_cons.mp hz with rfl | hz; exact ⟨by decide, 1, by decide, by decide, by decide, clkL_1⟩; exact absurd hz List.not_mem_nil) (by decide) (by decide) (Or.inr ⟨dL_offer_19, rfl⟩) (by decide) (fun S1 hr => ?_)
      refine s_iconst (v := 2) dL_offer_21 (by decide) ?_
      exact s_reti dL_offer_22 rfl rfl ⟨S1, by rw [e]; exact hr, Or.inr (Or.inr ⟨_, hp2, e, rfl, rfl⟩)⟩
    exact absurd hp List.not_mem_nil
set_option maxHeartbeats 4000000 in
theorem m_L_accept {tm : Nat × Nat} {S : Sto} {w : CAd} {c : CC} {k o : Int32} {oa : Nat} (hk : sK S oa = 11) (hn : sN S oa = 1) (hW : CW tm S w c) (hm : w.m = w.n) {a th : Int32} (hO : CI [(3, 1), (2, 2)] (f_X3_accept w.n w.no c k o).1 th a) : Ev tm M_L_accept [.ref w.th, .int k, .int o, .ref oa] S (LQ lvI (PA tm w.th w.oa w.no w.nt S (f_X3_accept w.n w.no c k o)) (f_X3_accept w.n w.no c k o).1 [(3, 1), (2, 2)] oa) := by
  refine ev_in ok_L_accept (Nat.le_of_ble_eq_true rfl) ?_
  refine s_aloadn dL_accept_0 rfl rfl ?_
  refine s_iconst (v := 0) dL_accept_1 (by decide) ?_
  refine s_aloadn dL_accept_2 rfl rfl ?_
  refine s_iloadn dL_accept_3 rfl rfl ?_
  refine s_iloadn dL_accept_4 rfl rfl ?_
  rcases hO with ⟨e, -⟩ | ⟨p, hp, e, -⟩
  · refine s_cv2G (n := 80) dL_accept_5 rfl (kv hW.th (by decide) rfl) rfl (by decide) (by decide) (by decide) (by decide) (Nat.le_of_ble_eq_true rfl) (m_X3_accept hW hm) (fun r S1 hr => ?_) (fun x S1 hr => absurd (hr.1.trans e) (by intro h; cases h))
    have er := hr.1.trans e
    cases er
    obtain ⟨fk, fn⟩ := (PA.fr hr).out hk hn
    refine s_i2l dL_accept_8 ?_
    refine s_last' (j := 0) dL_accept_9 (Or.inr (Or.inr fk)) rfl (by rw [fn]; decide) (by rw [fn]; decide) ?_
    refine s_goto (tgt := 21) dL_accept_10 (by decide) ?_
    refine s_iconst (v := 0) dL_accept_21 (by decide) ?_
    exact s_reti dL_accept_22 rfl rfl ⟨S1, by rw [← e] at hr; exact hr, Or.inl ⟨_, e, rfl, rfl⟩⟩
  · have hp2 := hp
    rcases List.mem_cons.mp hp with rfl | hp
    · refine s_catch (n := 80) (as := [.int k, .int o]) (st := [.int 0, .ref oa]) (x := 3) (pre := []) (suf := [(0, (10, (17, 15)))]) (sp := 0) (ep := 10) (ct := 21) (h := 13) (hn := 15) (j := 4) dL_accept_5 rfl (kv hW.th (by decide) rfl) rfl (by decide) (by decide) (by decide) (by decide) (Nat.le_of_ble_eq_true rfl) (m_X3_accept hW hm) (fun r S1 hr => absurd (hr.1.trans e) (by intro h; cases h)) (fun x' S1' hr => Sum.inr.inj (hr.1.trans e)) rfl (by decide) (by decide) (by decide) clkL_3 cstL_3 (fun z hz => absurd hz List.not_mem_nil) (by decide) (by decide) (Or.inr ⟨dL_accept_13, rfl⟩) (by decide) (fun S1 hr => ?_)
      refine s_iconst (v := 1) dL_accept_15 (by decide) ?_
      exact s_reti dL_accept_16 rfl rfl ⟨S1, by rw [e]; exact hr, Or.inr (Or.inr ⟨_, hp2, e, rfl, rfl⟩)⟩
    rcases List.mem_cons.mp hp with rfl | hp
    · refine s_catch (n := 80) (as := [.int k, .int o]) (st := [.int 0, .ref oa]) (x := 2) (pre := [(0, (10, (13, 21)))]) (suf := []) (sp := 0) (ep := 10) (ct := 15) (h := 17) (hn := 19) (j := 4) dL_accept_5 rfl (kv hW.th (by decide) rfl) rfl (by decide) (by decide) (by decide) (by decide) (Nat.le_of_ble_eq_true rfl) (m_X3_accept hW hm) (fun r S1 hr => absurd (hr.1.trans e) (by intro h; cases h)) (fun x' S1' hr => Sum.inr.inj (hr.1.trans e)) rfl (by decide) (by decide) (by decide) clkL_2 cstL_2 (fun z hz => by rcases List.mem_cons.mp hz with rfl | hz; exact ⟨by decide, 3, by decide, by decide, by decide, clkL_3⟩; exact absurd hz List.not_mem_nil) (by decide) (by decide) (Or.inr ⟨dL_accept_17, rfl⟩) (by decide) (fun S1 hr => ?_)
      refine s_iconst (v := 2) dL_accept_19 (by decide) ?_
      exact s_reti dL_accept_20 rfl rfl ⟨S1, by rw [e]; exact hr, Or.inr (Or.inr ⟨_, hp2, e, rfl, rfl⟩)⟩
    exact absurd hp List.not_mem_nil
set_option maxHeartbeats 4000000 in
theorem m_L_vote {tm : Nat × Nat} {S : Sto} {w : CAd} {c : CC} {k o z : Int32} (hW : CW tm S w c) (hz : z = 0 ∨ z = 1) {th : Int32} (hO : CV [(3, 1), (2, 2)] (f_X3_vote w.n w.no c k o z).1 th) : Ev tm M_L_vote [.ref w.th, .int k, .int o, .int z] S (LQ lvI (PO tm w S (f_X3_vote w.n w.no c k o z)) (f_X3_vote w.n w.no c k o z).1 [(3, 1), (2, 2)] 0) := by
  refine ev_in ok_L_vote (Nat.le_of_ble_eq_true rfl) ?_
  refine s_aloadn dL_vote_0 rfl rfl ?_
  refine s_iloadn dL_vote_1 rfl rfl ?_
  refine s_iloadn dL_vote_2 rfl rfl ?_
  refine s_iloadn dL_vote_3 rfl rfl ?_
  rcases hO with ⟨e, -⟩ | ⟨p, hp, e, -⟩
  · refine s_cv3G (n := 81) dL_vote_4 rfl (kv hW.th (by decide) rfl) rfl (by decide) (by decide) (by decide) (by decide) (Nat.le_of_ble_eq_true rfl) (m_X3_vote hW hz) (fun r S1 hr => ?_) (fun x S1 hr => absurd (hr.1.trans e) (by intro h; cases h))
    have er := hr.1.trans e
    cases er
    refine s_goto (tgt := 18) dL_vote_7 (by decide) ?_
    refine s_iconst (v := 0) dL_vote_18 (by decide) ?_
    exact s_reti dL_vote_19 rfl rfl ⟨S1, by rw [← e] at hr; exact hr, Or.inr (Or.inl ⟨e, rfl, rfl⟩)⟩
  · have hp2 := hp
    rcases List.mem_cons.mp hp with rfl | hp
    · refine s_catch (n := 81) (as := [.int k, .int o, .int z]) (st := []) (x := 3) (pre := []) (suf := [(0, (7, (14, 15)))]) (sp := 0) (ep := 7) (ct := 21) (h := 10) (hn := 12) (j := 4) dL_vote_4 rfl (kv hW.th (by decide) rfl) rfl (by decide) (by decide) (by decide) (by decide) (Nat.le_of_ble_eq_true rfl) (m_X3_vote hW hz) (fun r S1 hr => absurd (hr.1.trans e) (by intro h; cases h)) (fun x' S1' hr => Sum.inr.inj (hr.1.trans e)) rfl (by decide) (by decide) (by decide) clkL_3 cstL_3 (fun z hz => absurd hz List.not_mem_nil) (by decide) (by decide) (Or.inr ⟨dL_vote_10, rfl⟩) (by decide) (fun S1 hr => ?_)
      refine s_iconst (v := 1) dL_vote_12 (by decide) ?_
      exact s_reti dL_vote_13 rfl rfl ⟨S1, by rw [e]; exact hr, Or.inr (Or.inr ⟨_, hp2, e, rfl, rfl⟩)⟩
    rcases List.mem_cons.mp hp with rfl | hp
    · refine s_catch (n := 81) (as := [.int k, .int o, .int z]) (st := []) (x := 2) (pre := [(0, (7, (10, 21)))]) (suf := []) (sp := 0) (ep := 7) (ct := 15) (h := 14) (hn := 16) (j := 4) dL_vote_4 rfl (kv hW.th (by decide) rfl) rfl (by decide) (by decide) (by decide) (by decide) (Nat.le_of_ble_eq_true rfl) (m_X3_vote hW hz) (fun r S1 hr => absurd (hr.1.trans e) (by intro h; cases h)) (fun x' S1' hr => Sum.inr.inj (hr.1.trans e)) rfl (by decide) (by decide) (by decide) clkL_2 cstL_2 (fun z hz => by rcases List.mem_cons.mp hz with rfl | hz; exact ⟨by decide, 3, by decide, by decide, by decide, clkL_3⟩; exact absurd hz List.not_mem_nil) (by decide) (by decide) (Or.inr ⟨dL_vote_14, rfl⟩) (by decide) (fun S1 hr => ?_)
      refine s_iconst (v := 2) dL_vote_16 (by decide) ?_
      exact s_reti dL_vote_17 rfl rfl ⟨S1, by rw [e]; exact hr, Or.inr (Or.inr ⟨_, hp2, e, rfl, rfl⟩)⟩
    exact absurd hp List.not_mem_nil
set_option maxHeartbeats 4000000 in
theorem m_L_settle {tm : Nat × Nat} {S : Sto} {w : CAd} {c : CC} {o : Int32} {oa : Nat} (hk : sK S oa = 11) (hn : sN S oa = 1) (hW : CW tm S w c) (hm : w.m = w.n) {a th : Int32} (hO : CI [(3, 1), (2, 2)] (f_X3_settle w.n w.no c o).1 th a) : Ev tm M_L_settle [.ref w.th, .int o, .ref oa] S (LQ lvI (PA tm w.th w.oa w.no w.nt S (f_X3_settle w.n w.no c o)) (f_X3_settle w.n w.no c o).1 [(3, 1), (2, 2)] oa) := by
  refine ev_in ok_L_settle (Nat.le_of_ble_eq_true rfl) ?_
  refine s_aloadn dL_settle_0 rfl rfl ?_
  refine s_iconst (v := 0) dL_settle_1 (by decide) ?_
  refine s_aloadn dL_settle_2 rfl rfl ?_
  refine s_iloadn dL_settle_3 rfl rfl ?_
  rcases hO with ⟨e, -⟩ | ⟨p, hp, e, -⟩
  · refine s_cv1G (n := 82) dL_settle_4 rfl (kv hW.th (by decide) rfl) rfl (by decide) (by decide) (by decide) (by decide) (Nat.le_of_ble_eq_true rfl) (m_X3_settle hW hm) (fun r S1 hr => ?_) (fun x S1 hr => absurd (hr.1.trans e) (by intro h; cases h))
    have er := hr.1.trans e
    cases er
    obtain ⟨fk, fn⟩ := (PA.fr hr).out hk hn
    refine s_i2l dL_settle_7 ?_
    refine s_last' (j := 0) dL_settle_8 (Or.inr (Or.inr fk)) rfl (by rw [fn]; decide) (by rw [fn]; decide) ?_
    refine s_goto (tgt := 18) dL_settle_9 (by decide) ?_
    refine s_iconst (v := 0) dL_settle_18 (by decide) ?_
    exact s_reti dL_settle_19 rfl rfl ⟨S1, by rw [← e] at hr; exact hr, Or.inl ⟨_, e, rfl, rfl⟩⟩
  · have hp2 := hp
    rcases List.mem_cons.mp hp with rfl | hp
    · refine s_catch (n := 82) (as := [.int o]) (st := [.int 0, .ref oa]) (x := 3) (pre := []) (suf := [(0, (9, (15, 15)))]) (sp := 0) (ep := 9) (ct := 21) (h := 12) (hn := 13) (j := 3) dL_settle_4 rfl (kv hW.th (by decide) rfl) rfl (by decide) (by decide) (by decide) (by decide) (Nat.le_of_ble_eq_true rfl) (m_X3_settle hW hm) (fun r S1 hr => absurd (hr.1.trans e) (by intro h; cases h)) (fun x' S1' hr => Sum.inr.inj (hr.1.trans e)) rfl (by decide) (by decide) (by decide) clkL_3 cstL_3 (fun z hz => absurd hz List.not_mem_nil) (by decide) (by decide) (Or.inl ⟨3, dL_settle_12, rfl, rfl⟩) (by decide) (fun S1 hr => ?_)
      refine s_iconst (v := 1) dL_settle_13 (by decide) ?_
      exact s_reti dL_settle_14 rfl rfl ⟨S1, by rw [e]; exact hr, Or.inr (Or.inr ⟨_, hp2, e, rfl, rfl⟩)⟩
    rcases List.mem_cons.mp hp with rfl | hp
    · refine s_catch (n := 82) (as := [.int o]) (st := [.int 0, .ref oa]) (x := 2) (pre := [(0, (9, (12, 21)))]) (suf := []) (sp := 0) (ep := 9) (ct := 15) (h := 15) (hn := 16) (j := 3) dL_settle_4 rfl (kv hW.th (by decide) rfl) rfl (by decide) (by decide) (by decide) (by decide) (Nat.le_of_ble_eq_true rfl) (m_X3_settle hW hm) (fun r S1 hr => absurd (hr.1.trans e) (by intro h; cases h)) (fun x' S1' hr => Sum.inr.inj (hr.1.trans e)) rfl (by decide) (by decide) (by decide) clkL_2 cstL_2 (fun z hz => by rcases List.mem_cons.mp hz with rfl | hz; exact ⟨by decide, 3, by decide, by decide, by decide, clkL_3⟩; exact absurd hz List.not_mem_nil) (by decide) (by decide) (Or.inl ⟨3, dL_settle_15, rfl, rfl⟩) (by decide) (fun S1 hr => ?_)
      refine s_iconst (v := 2) dL_settle_16 (by decide) ?_
      exact s_reti dL_settle_17 rfl rfl ⟨S1, by rw [e]; exact hr, Or.inr (Or.inr ⟨_, hp2, e, rfl, rfl⟩)⟩
    exact absurd hp List.not_mem_nil
set_option maxHeartbeats 4000000 in
theorem m_L_thing {tm : Nat × Nat} {S : Sto} {w : CAd} {c : CC} {v : Int32} {oa : Nat} (hk : sK S oa = 11) (hn : sN S oa = 1) (hW : CW tm S w c) (hm : w.m = w.n) {a th : Int32} (hO : CI [(1, 1), (2, 2)] (f_X3_thing w.nt c v).1 th a) : Ev tm M_L_thing [.ref w.th, .int v, .ref oa] S (LQ lvI (PG tm w.th w.n w.ca w.no S (f_X3_thing w.nt c v)) (f_X3_thing w.nt c v).1 [(1, 1), (2, 2)] oa) := by
  refine ev_in ok_L_thing (Nat.le_of_ble_eq_true rfl) ?_
  refine s_aloadn dL_thing_0 rfl rfl ?_
  refine s_iconst (v := 0) dL_thing_1 (by decide) ?_
  refine s_aloadn dL_thing_2 rfl rfl ?_
  refine s_iloadn dL_thing_3 rfl rfl ?_
  rcases hO with ⟨e, -⟩ | ⟨p, hp, e, -⟩
  · refine s_cv1G (n := 83) dL_thing_4 rfl (kv hW.th (by decide) rfl) rfl (by decide) (by decide) (by decide) (by decide) (Nat.le_of_ble_eq_true rfl) (m_X3_thing hW hm) (fun r S1 hr => ?_) (fun x S1 hr => absurd (hr.1.trans e) (by intro h; cases h))
    have er := hr.1.trans e
    cases er
    obtain ⟨fk, fn⟩ := (PG.fr hr).out hk hn
    refine s_i2l dL_thing_7 ?_
    refine s_last' (j := 0) dL_thing_8 (Or.inr (Or.inr fk)) rfl (by rw [fn]; decide) (by rw [fn]; decide) ?_
    refine s_goto (tgt := 18) dL_thing_9 (by decide) ?_
    refine s_iconst (v := 0) dL_thing_18 (by decide) ?_
    exact s_reti dL_thing_19 rfl rfl ⟨S1, by rw [← e] at hr; exact hr, Or.inl ⟨_, e, rfl, rfl⟩⟩
  · have hp2 := hp
    rcases List.mem_cons.mp hp with rfl | hp
    · refine s_catch (n := 83) (as := [.int v]) (st := [.int 0, .ref oa]) (x := 1) (pre := []) (suf := [(0, (9, (15, 15)))]) (sp := 0) (ep := 9) (ct := 13) (h := 12) (hn := 13) (j := 3) dL_thing_4 rfl (kv hW.th (by decide) rfl) rfl (by decide) (by decide) (by decide) (by decide) (Nat.le_of_ble_eq_true rfl) (m_X3_thing hW hm) (fun r S1 hr => absurd (hr.1.trans e) (by intro h; cases h)) (fun x' S1' hr => Sum.inr.inj (hr.1.trans e)) rfl (by decide) (by decide) (by decide) clkL_1 cstL_1 (fun z hz => absurd hz List.not_mem_nil) (by decide) (by decide) (Or.inl ⟨3, dL_thing_12, rfl, rfl⟩) (by decide) (fun S1 hr => ?_)
      refine s_iconst (v := 1) dL_thing_13 (by decide) ?_
      exact s_reti dL_thing_14 rfl rfl ⟨S1, by rw [e]; exact hr, Or.inr (Or.inr ⟨_, hp2, e, rfl, rfl⟩)⟩
    rcases List.mem_cons.mp hp with rfl | hp
    · refine s_catch (n := 83) (as := [.int v]) (st := [.int 0, .ref oa]) (x := 2) (pre := [(0, (9, (12, 13)))]) (suf := []) (sp := 0) (ep := 9) (ct := 15) (h := 15) (hn := 16) (j := 3) dL_thing_4 rfl (kv hW.th (by decide) rfl) rfl (by decide) (by decide) (by decide) (by decide) (Nat.le_of_ble_eq_true rfl) (m_X3_thing hW hm) (fun r S1 hr => absurd (hr.1.trans e) (by intro h; cases h)) (fun x' S1' hr => Sum.inr.inj (hr.1.trans e)) rfl (by decide) (by decide) (by decide) clkL_2 cstL_2 (fun z hz => by rcases List.mem_cons.mp hz with rfl | hz; exact ⟨by decide, 1, by decide, by decide, by decide, clkL_1⟩; exact absurd hz List.not_mem_nil) (by decide) (by decide) (Or.inl ⟨3, dL_thing_15, rfl, rfl⟩) (by decide) (fun S1 hr => ?_)
      refine s_iconst (v := 2) dL_thing_16 (by decide) ?_
      exact s_reti dL_thing_17 rfl rfl ⟨S1, by rw [e]; exact hr, Or.inr (Or.inr ⟨_, hp2, e, rfl, rfl⟩)⟩
    exact absurd hp List.not_mem_nil
set_option maxHeartbeats 4000000 in
theorem m_L_sue {tm : Nat × Nat} {S : Sto} {w : CAd} {c : CC} {k : Int32} (hW : CW tm S w c)  {th : Int32} (hO : CV [(3, 1), (2, 2)] (f_X3_sue w.n c k).1 th) : Ev tm M_L_sue [.ref w.th, .int k] S (LQ lvI (PO tm w S (f_X3_sue w.n c k)) (f_X3_sue w.n c k).1 [(3, 1), (2, 2)] 0) := by
  refine ev_in ok_L_sue (Nat.le_of_ble_eq_true rfl) ?_
  refine s_aloadn dL_sue_0 rfl rfl ?_
  refine s_iloadn dL_sue_1 rfl rfl ?_
  rcases hO with ⟨e, -⟩ | ⟨p, hp, e, -⟩
  · refine s_cv1G (n := 84) dL_sue_2 rfl (kv hW.th (by decide) rfl) rfl (by decide) (by decide) (by decide) (by decide) (Nat.le_of_ble_eq_true rfl) (m_X3_sue hW) (fun r S1 hr => ?_) (fun x S1 hr => absurd (hr.1.trans e) (by intro h; cases h))
    have er := hr.1.trans e
    cases er
    refine s_goto (tgt := 14) dL_sue_5 (by decide) ?_
    refine s_iconst (v := 0) dL_sue_14 (by decide) ?_
    exact s_reti dL_sue_15 rfl rfl ⟨S1, by rw [← e] at hr; exact hr, Or.inr (Or.inl ⟨e, rfl, rfl⟩)⟩
  · have hp2 := hp
    rcases List.mem_cons.mp hp with rfl | hp
    · refine s_catch (n := 84) (as := [.int k]) (st := []) (x := 3) (pre := []) (suf := [(0, (5, (11, 15)))]) (sp := 0) (ep := 5) (ct := 21) (h := 8) (hn := 9) (j := 2) dL_sue_2 rfl (kv hW.th (by decide) rfl) rfl (by decide) (by decide) (by decide) (by decide) (Nat.le_of_ble_eq_true rfl) (m_X3_sue hW) (fun r S1 hr => absurd (hr.1.trans e) (by intro h; cases h)) (fun x' S1' hr => Sum.inr.inj (hr.1.trans e)) rfl (by decide) (by decide) (by decide) clkL_3 cstL_3 (fun z hz => absurd hz List.not_mem_nil) (by decide) (by decide) (Or.inl ⟨2, dL_sue_8, rfl, rfl⟩) (by decide) (fun S1 hr => ?_)
      refine s_iconst (v := 1) dL_sue_9 (by decide) ?_
      exact s_reti dL_sue_10 rfl rfl ⟨S1, by rw [e]; exact hr, Or.inr (Or.inr ⟨_, hp2, e, rfl, rfl⟩)⟩
    rcases List.mem_cons.mp hp with rfl | hp
    · refine s_catch (n := 84) (as := [.int k]) (st := []) (x := 2) (pre := [(0, (5, (8, 21)))]) (suf := []) (sp := 0) (ep := 5) (ct := 15) (h := 11) (hn := 12) (j := 2) dL_sue_2 rfl (kv hW.th (by decide) rfl) rfl (by decide) (by decide) (by decide) (by decide) (Nat.le_of_ble_eq_true rfl) (m_X3_sue hW) (fun r S1 hr => absurd (hr.1.trans e) (by intro h; cases h)) (fun x' S1' hr => Sum.inr.inj (hr.1.trans e)) rfl (by decide) (by decide) (by decide) clkL_2 cstL_2 (fun z hz => by rcases List.mem_cons.mp hz with rfl | hz; exact ⟨by decide, 3, by decide, by decide, by decide, clkL_3⟩; exact absurd hz List.not_mem_nil) (by decide) (by decide) (Or.inl ⟨2, dL_sue_11, rfl, rfl⟩) (by decide) (fun S1 hr => ?_)
      refine s_iconst (v := 2) dL_sue_12 (by decide) ?_
      exact s_reti dL_sue_13 rfl rfl ⟨S1, by rw [e]; exact hr, Or.inr (Or.inr ⟨_, hp2, e, rfl, rfl⟩)⟩
    exact absurd hp List.not_mem_nil
set_option maxHeartbeats 4000000 in
theorem m_L_seize {tm : Nat × Nat} {S : Sto} {w : CAd} {c : CC} {k g : Int32} {oa : Nat} (hk : sK S oa = 11) (hn : sN S oa = 1) (hW : CW tm S w c)  {a : Int64} {th : Int32} (hO : CJ [(3, 1), (2, 2)] (f_X3_seize w.n w.nt c k g).1 th a) : Ev tm M_L_seize [.ref w.th, .int k, .int g, .ref oa] S (LQ lvI (PO tm w S (f_X3_seize w.n w.nt c k g)) (f_X3_seize w.n w.nt c k g).1 [(3, 1), (2, 2)] oa) := by
  refine ev_in ok_L_seize (Nat.le_of_ble_eq_true rfl) ?_
  refine s_aloadn dL_seize_0 rfl rfl ?_
  refine s_iconst (v := 0) dL_seize_1 (by decide) ?_
  refine s_aloadn dL_seize_2 rfl rfl ?_
  refine s_iloadn dL_seize_3 rfl rfl ?_
  refine s_iloadn dL_seize_4 rfl rfl ?_
  rcases hO with ⟨e, -⟩ | ⟨p, hp, e, -⟩
  · refine s_cv2G (n := 85) dL_seize_5 rfl (kv hW.th (by decide) rfl) rfl (by decide) (by decide) (by decide) (by decide) (Nat.le_of_ble_eq_true rfl) (m_X3_seize hW) (fun r S1 hr => ?_) (fun x S1 hr => absurd (hr.1.trans e) (by intro h; cases h))
    have er := hr.1.trans e
    cases er
    obtain ⟨fk, fn⟩ := (PO.fr hr).out hk hn
    refine s_last' (j := 0) dL_seize_8 (Or.inr (Or.inr fk)) rfl (by rw [fn]; decide) (by rw [fn]; decide) ?_
    refine s_goto (tgt := 20) dL_seize_9 (by decide) ?_
    refine s_iconst (v := 0) dL_seize_20 (by decide) ?_
    exact s_reti dL_seize_21 rfl rfl ⟨S1, by rw [← e] at hr; exact hr, Or.inl ⟨_, e, rfl, rfl⟩⟩
  · have hp2 := hp
    rcases List.mem_cons.mp hp with rfl | hp
    · refine s_catch (n := 85) (as := [.int k, .int g]) (st := [.int 0, .ref oa]) (x := 3) (pre := []) (suf := [(0, (9, (16, 15)))]) (sp := 0) (ep := 9) (ct := 21) (h := 12) (hn := 14) (j := 4) dL_seize_5 rfl (kv hW.th (by decide) rfl) rfl (by decide) (by decide) (by decide) (by decide) (Nat.le_of_ble_eq_true rfl) (m_X3_seize hW) (fun r S1 hr => absurd (hr.1.trans e) (by intro h; cases h)) (fun x' S1' hr => Sum.inr.inj (hr.1.trans e)) rfl (by decide) (by decide) (by decide) clkL_3 cstL_3 (fun z hz => absurd hz List.not_mem_nil) (by decide) (by decide) (Or.inr ⟨dL_seize_12, rfl⟩) (by decide) (fun S1 hr => ?_)
      refine s_iconst (v := 1) dL_seize_14 (by decide) ?_
      exact s_reti dL_seize_15 rfl rfl ⟨S1, by rw [e]; exact hr, Or.inr (Or.inr ⟨_, hp2, e, rfl, rfl⟩)⟩
    rcases List.mem_cons.mp hp with rfl | hp
    · refine s_catch (n := 85) (as := [.int k, .int g]) (st := [.int 0, .ref oa]) (x := 2) (pre := [(0, (9, (12, 21)))]) (suf := []) (sp := 0) (ep := 9) (ct := 15) (h := 16) (hn := 18) (j := 4) dL_seize_5 rfl (kv hW.th (by decide) rfl) rfl (by decide) (by decide) (by decide) (by decide) (Nat.le_of_ble_eq_true rfl) (m_X3_seize hW) (fun r S1 hr => absurd (hr.1.trans e) (by intro h; cases h)) (fun x' S1' hr => Sum.inr.inj (hr.1.trans e)) rfl (by decide) (by decide) (by decide) clkL_2 cstL_2 (fun z hz => by rcases List.mem_cons.mp hz with rfl | hz; exact ⟨by decide, 3, by decide, by decide, by decide, clkL_3⟩; exact absurd hz List.not_mem_nil) (by decide) (by decide) (Or.inr ⟨dL_seize_16, rfl⟩) (by decide) (fun S1 hr => ?_)
      refine s_iconst (v := 2) dL_seize_18 (by decide) ?_
      exact s_reti dL_seize_19 rfl rfl ⟨S1, by rw [e]; exact hr, Or.inr (Or.inr ⟨_, hp2, e, rfl, rfl⟩)⟩
    exact absurd hp List.not_mem_nil
set_option maxHeartbeats 4000000 in
theorem m_L_programme {tm : Nat × Nat} {S : Sto} {w : CAd} {c : CC} {a1 u r : Int32} (hW : CW tm S w c)  {th : Int32} (hO : CV [(1, 1)] (f_X3_programme c a1 u r).1 th) : Ev tm M_L_programme [.ref w.th, .int a1, .int u, .int r] S (LQ lvI (PO tm w S (f_X3_programme c a1 u r)) (f_X3_programme c a1 u r).1 [(1, 1)] 0) := by
  refine ev_in ok_L_programme (Nat.le_of_ble_eq_true rfl) ?_
  refine s_aloadn dL_programme_0 rfl rfl ?_
  refine s_iloadn dL_programme_1 rfl rfl ?_
  refine s_iloadn dL_programme_2 rfl rfl ?_
  refine s_iloadn dL_programme_3 rfl rfl ?_
  rcases hO with ⟨e, -⟩ | ⟨p, hp, e, -⟩
  · refine s_cv3G (n := 86) dL_programme_4 rfl (kv hW.th (by decide) rfl) rfl (by decide) (by decide) (by decide) (by decide) (Nat.le_of_ble_eq_true rfl) (m_X3_programme hW) (fun r S1 hr => ?_) (fun x S1 hr => absurd (hr.1.trans e) (by intro h; cases h))
    have er := hr.1.trans e
    cases er
    refine s_goto (tgt := 14) dL_programme_7 (by decide) ?_
    refine s_iconst (v := 0) dL_programme_14 (by decide) ?_
    exact s_reti dL_programme_15 rfl rfl ⟨S1, by rw [← e] at hr; exact hr, Or.inr (Or.inl ⟨e, rfl, rfl⟩)⟩
  · have hp2 := hp
    rcases List.mem_cons.mp hp with rfl | hp
    · refine s_catch (n := 86) (as := [.int a1, .int u, .int r]) (st := []) (x := 1) (pre := []) (suf := []) (sp := 0) (ep := 7) (ct := 13) (h := 10) (hn := 12) (j := 4) dL_programme_4 rfl (kv hW.th (by decide) rfl) rfl (by decide) (by decide) (by decide) (by decide) (Nat.le_of_ble_eq_true rfl) (m_X3_programme hW) (fun r S1 hr => absurd (hr.1.trans e) (by intro h; cases h)) (fun x' S1' hr => Sum.inr.inj (hr.1.trans e)) rfl (by decide) (by decide) (by decide) clkL_1 cstL_1 (fun z hz => absurd hz List.not_mem_nil) (by decide) (by decide) (Or.inr ⟨dL_programme_10, rfl⟩) (by decide) (fun S1 hr => ?_)
      refine s_iconst (v := 1) dL_programme_12 (by decide) ?_
      exact s_reti dL_programme_13 rfl rfl ⟨S1, by rw [e]; exact hr, Or.inr (Or.inr ⟨_, hp2, e, rfl, rfl⟩)⟩
    exact absurd hp List.not_mem_nil
set_option maxHeartbeats 4000000 in
theorem m_L_assure {tm : Nat × Nat} {S : Sto} {w : CAd} {c : CC} {k z : Int32} {oa : Nat} (hk : sK S oa = 11) (hn : sN S oa = 1) (hW : CW tm S w c) (hz : z = 0 ∨ z = 1) {a th : Int32} (hO : CI [(3, 1)] (f_X3_assure c k z).1 th a) : Ev tm M_L_assure [.ref w.th, .int k, .int z, .ref oa] S (LQ lvZ (PO tm w S (f_X3_assure c k z)) (f_X3_assure c k z).1 [(3, 1)] oa) := by
  refine ev_in ok_L_assure (Nat.le_of_ble_eq_true rfl) ?_
  refine s_aloadn dL_assure_0 rfl rfl ?_
  refine s_iconst (v := 0) dL_assure_1 (by decide) ?_
  refine s_aloadn dL_assure_2 rfl rfl ?_
  refine s_iloadn dL_assure_3 rfl rfl ?_
  refine s_iloadn dL_assure_4 rfl rfl ?_
  rcases hO with ⟨e, -⟩ | ⟨p, hp, e, -⟩
  · refine s_cv2G (n := 87) dL_assure_5 rfl (kv hW.th (by decide) rfl) rfl (by decide) (by decide) (by decide) (by decide) (Nat.le_of_ble_eq_true rfl) (m_X3_assure hW hz) (fun r S1 hr => ?_) (fun x S1 hr => absurd (hr.1.trans e) (by intro h; cases h))
    have er := hr.1.trans e
    cases er
    obtain ⟨fk, fn⟩ := (PO.fr hr).out hk hn
    refine s_ifeq (tgt := 15) dL_assure_8 (by decide) (fun c0 => ?_) (fun c0 => ?_)
    · refine s_lconst (v := 0) dL_assure_15 (by decide) ?_
      refine s_last' (j := 0) dL_assure_16 (Or.inr (Or.inr fk)) rfl (by rw [fn]; decide) (by rw [fn]; decide) ?_
      refine s_goto (tgt := 24) dL_assure_17 (by decide) ?_
      refine s_iconst (v := 0) dL_assure_24 (by decide) ?_
      exact s_reti dL_assure_25 rfl rfl ⟨S1, by rw [← e] at hr; exact hr, Or.inl ⟨_, e, rfl, by rw [show lvZ (.int a) = 0 from if_pos c0]⟩⟩
    · refine s_lconst (v := 1) dL_assure_11 (by decide) ?_
      refine s_goto (tgt := 16) dL_assure_12 (by decide) ?_
      refine s_last' (j := 0) dL_assure_16 (Or.inr (Or.inr fk)) rfl (by rw [fn]; decide) (by rw [fn]; decide) ?_
      refine s_goto (tgt := 24) dL_assure_17 (by decide) ?_
      refine s_iconst (v := 0) dL_assure_24 (by decide) ?_
      exact s_reti dL_assure_25 rfl rfl ⟨S1, by rw [← e] at hr; exact hr, Or.inl ⟨_, e, rfl, by rw [show lvZ (.int a) = 1 from if_neg c0]⟩⟩
  · have hp2 := hp
    rcases List.mem_cons.mp hp with rfl | hp
    · refine s_catch (n := 87) (as := [.int k, .int z]) (st := [.int 0, .ref oa]) (x := 3) (pre := []) (suf := []) (sp := 0) (ep := 17) (ct := 21) (h := 20) (hn := 22) (j := 4) dL_assure_5 rfl (kv hW.th (by decide) rfl) rfl (by decide) (by decide) (by decide) (by decide) (Nat.le_of_ble_eq_true rfl) (m_X3_assure hW hz) (fun r S1 hr => absurd (hr.1.trans e) (by intro h; cases h)) (fun x' S1' hr => Sum.inr.inj (hr.1.trans e)) rfl (by decide) (by decide) (by decide) clkL_3 cstL_3 (fun z hz => absurd hz List.not_mem_nil) (by decide) (by decide) (Or.inr ⟨dL_assure_20, rfl⟩) (by decide) (fun S1 hr => ?_)
      refine s_iconst (v := 1) dL_assure_22 (by decide) ?_
      exact s_reti dL_assure_23 rfl rfl ⟨S1, by rw [e]; exact hr, Or.inr (Or.inr ⟨_, hp2, e, rfl, rfl⟩)⟩
    exact absurd hp List.not_mem_nil
set_option maxHeartbeats 4000000 in
theorem m_L_review {tm : Nat × Nat} {S : Sto} {w : CAd} {c : CC} {oa : Nat} (hk : sK S oa = 11) (hn : sN S oa = 1) (hW : CW tm S w c) (hm : w.m = w.n) {a th : Int32} (hO : CI [(2, 1)] (f_X3_review w.n c).1 th a) : Ev tm M_L_review [.ref w.th, .ref oa] S (LQ lvI (PA tm w.th w.oa w.no w.nt S (f_X3_review w.n c)) (f_X3_review w.n c).1 [(2, 1)] oa) := by
  refine ev_in ok_L_review (Nat.le_of_ble_eq_true rfl) ?_
  refine s_aloadn dL_review_0 rfl rfl ?_
  refine s_iconst (v := 0) dL_review_1 (by decide) ?_
  refine s_aloadn dL_review_2 rfl rfl ?_
  rcases hO with ⟨e, -⟩ | ⟨p, hp, e, -⟩
  · refine s_cv0G (n := 88) dL_review_3 rfl (kv hW.th (by decide) rfl) rfl (by decide) (by decide) (by decide) (by decide) (Nat.le_of_ble_eq_true rfl) (m_X3_review hW hm) (fun r S1 hr => ?_) (fun x S1 hr => absurd (hr.1.trans e) (by intro h; cases h))
    have er := hr.1.trans e
    cases er
    obtain ⟨fk, fn⟩ := (PA.fr hr).out hk hn
    refine s_i2l dL_review_6 ?_
    refine s_last' (j := 0) dL_review_7 (Or.inr (Or.inr fk)) rfl (by rw [fn]; decide) (by rw [fn]; decide) ?_
    refine s_goto (tgt := 14) dL_review_8 (by decide) ?_
    refine s_iconst (v := 0) dL_review_14 (by decide) ?_
    exact s_reti dL_review_15 rfl rfl ⟨S1, by rw [← e] at hr; exact hr, Or.inl ⟨_, e, rfl, rfl⟩⟩
  · have hp2 := hp
    rcases List.mem_cons.mp hp with rfl | hp
    · refine s_catch (n := 88) (as := []) (st := [.int 0, .ref oa]) (x := 2) (pre := []) (suf := []) (sp := 0) (ep := 8) (ct := 15) (h := 11) (hn := 12) (j := 2) dL_review_3 rfl (kv hW.th (by decide) rfl) rfl (by decide) (by decide) (by decide) (by decide) (Nat.le_of_ble_eq_true rfl) (m_X3_review hW hm) (fun r S1 hr => absurd (hr.1.trans e) (by intro h; cases h)) (fun x' S1' hr => Sum.inr.inj (hr.1.trans e)) rfl (by decide) (by decide) (by decide) clkL_2 cstL_2 (fun z hz => absurd hz List.not_mem_nil) (by decide) (by decide) (Or.inl ⟨2, dL_review_11, rfl, rfl⟩) (by decide) (fun S1 hr => ?_)
      refine s_iconst (v := 1) dL_review_12 (by decide) ?_
      exact s_reti dL_review_13 rfl rfl ⟨S1, by rw [e]; exact hr, Or.inr (Or.inr ⟨_, hp2, e, rfl, rfl⟩)⟩
    exact absurd hp List.not_mem_nil
set_option maxHeartbeats 4000000 in
theorem m_L_value {tm : Nat × Nat} {S : Sto} {w : CAd} {c : CC} {k r : Int32} {oa : Nat} (hk : sK S oa = 11) (hn : sN S oa = 1) (hW : CW tm S w c)  {a : Int64} {th : Int32} (hO : CJ [(3, 1), (1, 2)] (f_X3_value w.n c k r).1 th a) : Ev tm M_L_value [.ref w.th, .int k, .int r, .ref oa] S (LQ lvI (PO tm w S (f_X3_value w.n c k r)) (f_X3_value w.n c k r).1 [(3, 1), (1, 2)] oa) := by
  refine ev_in ok_L_value (Nat.le_of_ble_eq_true rfl) ?_
  refine s_aloadn dL_value_0 rfl rfl ?_
  refine s_iconst (v := 0) dL_value_1 (by decide) ?_
  refine s_aloadn dL_value_2 rfl rfl ?_
  refine s_iloadn dL_value_3 rfl rfl ?_
  refine s_iloadn dL_value_4 rfl rfl ?_
  rcases hO with ⟨e, -⟩ | ⟨p, hp, e, -⟩
  · refine s_cv2G (n := 89) dL_value_5 rfl (kv hW.th (by decide) rfl) rfl (by decide) (by decide) (by decide) (by decide) (Nat.le_of_ble_eq_true rfl) (m_X3_value hW) (fun r S1 hr => ?_) (fun x S1 hr => absurd (hr.1.trans e) (by intro h; cases h))
    have er := hr.1.trans e
    cases er
    obtain ⟨fk, fn⟩ := (PO.fr hr).out hk hn
    refine s_last' (j := 0) dL_value_8 (Or.inr (Or.inr fk)) rfl (by rw [fn]; decide) (by rw [fn]; decide) ?_
    refine s_goto (tgt := 20) dL_value_9 (by decide) ?_
    refine s_iconst (v := 0) dL_value_20 (by decide) ?_
    exact s_reti dL_value_21 rfl rfl ⟨S1, by rw [← e] at hr; exact hr, Or.inl ⟨_, e, rfl, rfl⟩⟩
  · have hp2 := hp
    rcases List.mem_cons.mp hp with rfl | hp
    · refine s_catch (n := 89) (as := [.int k, .int r]) (st := [.int 0, .ref oa]) (x := 3) (pre := []) (suf := [(0, (9, (16, 13)))]) (sp := 0) (ep := 9) (ct := 21) (h := 12) (hn := 14) (j := 4) dL_value_5 rfl (kv hW.th (by decide) rfl) rfl (by decide) (by decide) (by decide) (by decide) (Nat.le_of_ble_eq_true rfl) (m_X3_value hW) (fun r S1 hr => absurd (hr.1.trans e) (by intro h; cases h)) (fun x' S1' hr => Sum.inr.inj (hr.1.trans e)) rfl (by decide) (by decide) (by decide) clkL_3 cstL_3 (fun z hz => absurd hz List.not_mem_nil) (by decide) (by decide) (Or.inr ⟨dL_value_12, rfl⟩) (by decide) (fun S1 hr => ?_)
      refine s_iconst (v := 1) dL_value_14 (by decide) ?_
      exact s_reti dL_value_15 rfl rfl ⟨S1, by rw [e]; exact hr, Or.inr (Or.inr ⟨_, hp2, e, rfl, rfl⟩)⟩
    rcases List.mem_cons.mp hp with rfl | hp
    · refine s_catch (n := 89) (as := [.int k, .int r]) (st := [.int 0, .ref oa]) (x := 1) (pre := [(0, (9, (12, 21)))]) (suf := []) (sp := 0) (ep := 9) (ct := 13) (h := 16) (hn := 18) (j := 4) dL_value_5 rfl (kv hW.th (by decide) rfl) rfl (by decide) (by decide) (by decide) (by decide) (Nat.le_of_ble_eq_true rfl) (m_X3_value hW) (fun r S1 hr => absurd (hr.1.trans e) (by intro h; cases h)) (fun x' S1' hr => Sum.inr.inj (hr.1.trans e)) rfl (by decide) (by decide) (by decide) clkL_1 cstL_1 (fun z hz => by rcases List.mem_cons.mp hz with rfl | hz; exact ⟨by decide, 3, by decide, by decide, by decide, clkL_3⟩; exact absurd hz List.not_mem_nil) (by decide) (by decide) (Or.inr ⟨dL_value_16, rfl⟩) (by decide) (fun S1 hr => ?_)
      refine s_iconst (v := 2) dL_value_18 (by decide) ?_
      exact s_reti dL_value_19 rfl rfl ⟨S1, by rw [e]; exact hr, Or.inr (Or.inr ⟨_, hp2, e, rfl, rfl⟩)⟩
    exact absurd hp List.not_mem_nil
set_option maxHeartbeats 4000000 in
theorem m_L_offered {tm : Nat × Nat} {S : Sto} {w : CAd} {c : CC} {k o r : Int32} {oa : Nat} (hk : sK S oa = 11) (hn : sN S oa = 1) (hW : CW tm S w c)  {a : Int64} {th : Int32} (hO : CJ [(3, 1), (1, 2)] (f_X3_offered w.n w.no c k o r).1 th a) : Ev tm M_L_offered [.ref w.th, .int k, .int o, .int r, .ref oa] S (LQ lvI (PO tm w S (f_X3_offered w.n w.no c k o r)) (f_X3_offered w.n w.no c k o r).1 [(3, 1), (1, 2)] oa) := by
  refine ev_in ok_L_offered (Nat.le_of_ble_eq_true rfl) ?_
  refine s_aload dL_offered_0 rfl ?_
  refine s_iconst (v := 0) dL_offered_2 (by decide) ?_
  refine s_aloadn dL_offered_3 rfl rfl ?_
  refine s_iloadn dL_offered_4 rfl rfl ?_
  refine s_iloadn dL_offered_5 rfl rfl ?_
  refine s_iloadn dL_offered_6 rfl rfl ?_
  rcases hO with ⟨e, -⟩ | ⟨p, hp, e, -⟩
  · refine s_cv3G (n := 90) dL_offered_7 rfl (kv hW.th (by decide) rfl) rfl (by decide) (by decide) (by decide) (by decide) (Nat.le_of_ble_eq_true rfl) (m_X3_offered hW) (fun r S1 hr => ?_) (fun x S1 hr => absurd (hr.1.trans e) (by intro h; cases h))
    have er := hr.1.trans e
    cases er
    obtain ⟨fk, fn⟩ := (PO.fr hr).out hk hn
    refine s_last' (j := 0) dL_offered_10 (Or.inr (Or.inr fk)) rfl (by rw [fn]; decide) (by rw [fn]; decide) ?_
    refine s_goto (tgt := 22) dL_offered_11 (by decide) ?_
    refine s_iconst (v := 0) dL_offered_22 (by decide) ?_
    exact s_reti dL_offered_23 rfl rfl ⟨S1, by rw [← e] at hr; exact hr, Or.inl ⟨_, e, rfl, rfl⟩⟩
  · have hp2 := hp
    rcases List.mem_cons.mp hp with rfl | hp
    · refine s_catch (n := 90) (as := [.int k, .int o, .int r]) (st := [.int 0, .ref oa]) (x := 3) (pre := []) (suf := [(0, (11, (18, 13)))]) (sp := 0) (ep := 11) (ct := 21) (h := 14) (hn := 16) (j := 5) dL_offered_7 rfl (kv hW.th (by decide) rfl) rfl (by decide) (by decide) (by decide) (by decide) (Nat.le_of_ble_eq_true rfl) (m_X3_offered hW) (fun r S1 hr => absurd (hr.1.trans e) (by intro h; cases h)) (fun x' S1' hr => Sum.inr.inj (hr.1.trans e)) rfl (by decide) (by decide) (by decide) clkL_3 cstL_3 (fun z hz => absurd hz List.not_mem_nil) (by decide) (by decide) (Or.inr ⟨dL_offered_14, rfl⟩) (by decide) (fun S1 hr => ?_)
      refine s_iconst (v := 1) dL_offered_16 (by decide) ?_
      exact s_reti dL_offered_17 rfl rfl ⟨S1, by rw [e]; exact hr, Or.inr (Or.inr ⟨_, hp2, e, rfl, rfl⟩)⟩
    rcases List.mem_cons.mp hp with rfl | hp
    · refine s_catch (n := 90) (as := [.int k, .int o, .int r]) (st := [.int 0, .ref oa]) (x := 1) (pre := [(0, (11, (14, 21)))]) (suf := []) (sp := 0) (ep := 11) (ct := 13) (h := 18) (hn := 20) (j := 5) dL_offered_7 rfl (kv hW.th (by decide) rfl) rfl (by decide) (by decide) (by decide) (by decide) (Nat.le_of_ble_eq_true rfl) (m_X3_offered hW) (fun r S1 hr => absurd (hr.1.trans e) (by intro h; cases h)) (fun x' S1' hr => Sum.inr.inj (hr.1.trans e)) rfl (by decide) (by decide) (by decide) clkL_1 cstL_1 (fun z hz => by rcases List.mem_cons.mp hz with rfl | hz; exact ⟨by decide, 3, by decide, by decide, by decide, clkL_3⟩; exact absurd hz List.not_mem_nil) (by decide) (by decide) (Or.inr ⟨dL_offered_18, rfl⟩) (by decide) (fun S1 hr => ?_)
      refine s_iconst (v := 2) dL_offered_20 (by decide) ?_
      exact s_reti dL_offered_21 rfl rfl ⟨S1, by rw [e]; exact hr, Or.inr (Or.inr ⟨_, hp2, e, rfl, rfl⟩)⟩
    exact absurd hp List.not_mem_nil
set_option maxHeartbeats 4000000 in
theorem m_L_effort {tm : Nat × Nat} {S : Sto} {w : CAd} {c : CC} {k : Int32} {oa : Nat} (hk : sK S oa = 11) (hn : sN S oa = 1) (hW : CW tm S w c)  {a th : Int32} (hO : CI [(3, 1)] (f_X3_effort w.n c k).1 th a) : Ev tm M_L_effort [.ref w.th, .int k, .ref oa] S (LQ lvI (PO tm w S (f_X3_effort w.n c k)) (f_X3_effort w.n c k).1 [(3, 1)] oa) := by
  refine ev_in ok_L_effort (Nat.le_of_ble_eq_true rfl) ?_
  refine s_aloadn dL_effort_0 rfl rfl ?_
  refine s_iconst (v := 0) dL_effort_1 (by decide) ?_
  refine s_aloadn dL_effort_2 rfl rfl ?_
  refine s_iloadn dL_effort_3 rfl rfl ?_
  rcases hO with ⟨e, -⟩ | ⟨p, hp, e, -⟩
  · refine s_cv1G (n := 91) dL_effort_4 rfl (kv hW.th (by decide) rfl) rfl (by decide) (by decide) (by decide) (by decide) (Nat.le_of_ble_eq_true rfl) (m_X3_effort hW) (fun r S1 hr => ?_) (fun x S1 hr => absurd (hr.1.trans e) (by intro h; cases h))
    have er := hr.1.trans e
    cases er
    obtain ⟨fk, fn⟩ := (PO.fr hr).out hk hn
    refine s_i2l dL_effort_7 ?_
    refine s_last' (j := 0) dL_effort_8 (Or.inr (Or.inr fk)) rfl (by rw [fn]; decide) (by rw [fn]; decide) ?_
    refine s_goto (tgt := 15) dL_effort_9 (by decide) ?_
    refine s_iconst (v := 0) dL_effort_15 (by decide) ?_
    exact s_reti dL_effort_16 rfl rfl ⟨S1, by rw [← e] at hr; exact hr, Or.inl ⟨_, e, rfl, rfl⟩⟩
  · have hp2 := hp
    rcases List.mem_cons.mp hp with rfl | hp
    · refine s_catch (n := 91) (as := [.int k]) (st := [.int 0, .ref oa]) (x := 3) (pre := []) (suf := []) (sp := 0) (ep := 9) (ct := 21) (h := 12) (hn := 13) (j := 3) dL_effort_4 rfl (kv hW.th (by decide) rfl) rfl (by decide) (by decide) (by decide) (by decide) (Nat.le_of_ble_eq_true rfl) (m_X3_effort hW) (fun r S1 hr => absurd (hr.1.trans e) (by intro h; cases h)) (fun x' S1' hr => Sum.inr.inj (hr.1.trans e)) rfl (by decide) (by decide) (by decide) clkL_3 cstL_3 (fun z hz => absurd hz List.not_mem_nil) (by decide) (by decide) (Or.inl ⟨3, dL_effort_12, rfl, rfl⟩) (by decide) (fun S1 hr => ?_)
      refine s_iconst (v := 1) dL_effort_13 (by decide) ?_
      exact s_reti dL_effort_14 rfl rfl ⟨S1, by rw [e]; exact hr, Or.inr (Or.inr ⟨_, hp2, e, rfl, rfl⟩)⟩
    exact absurd hp List.not_mem_nil
set_option maxHeartbeats 4000000 in
theorem m_L_passes {tm : Nat × Nat} {S : Sto} {w : CAd} {c : CC} {o s : Int32} {oa : Nat} (hk : sK S oa = 11) (hn : sN S oa = 1) (hW : CW tm S w c)  {a th : Int32} (hO : CI [(3, 1)] (f_X3_passes w.n w.no c o s).1 th a) : Ev tm M_L_passes [.ref w.th, .int o, .int s, .ref oa] S (LQ lvZ (PO tm w S (f_X3_passes w.n w.no c o s)) (f_X3_passes w.n w.no c o s).1 [(3, 1)] oa) := by
  refine ev_in ok_L_passes (Nat.le_of_ble_eq_true rfl) ?_
  refine s_aloadn dL_passes_0 rfl rfl ?_
  refine s_iconst (v := 0) dL_passes_1 (by decide) ?_
  refine s_aloadn dL_passes_2 rfl rfl ?_
  refine s_iloadn dL_passes_3 rfl rfl ?_
  refine s_iloadn dL_passes_4 rfl rfl ?_
  rcases hO with ⟨e, -⟩ | ⟨p, hp, e, -⟩
  · refine s_cv2G (n := 92) dL_passes_5 rfl (kv hW.th (by decide) rfl) rfl (by decide) (by decide) (by decide) (by decide) (Nat.le_of_ble_eq_true rfl) (m_X3_passes hW) (fun r S1 hr => ?_) (fun x S1 hr => absurd (hr.1.trans e) (by intro h; cases h))
    have er := hr.1.trans e
    cases er
    obtain ⟨fk, fn⟩ := (PO.fr hr).out hk hn
    refine s_ifeq (tgt := 15) dL_passes_8 (by decide) (fun c0 => ?_) (fun c0 => ?_)
    · refine s_lconst (v := 0) dL_passes_15 (by decide) ?_
      refine s_last' (j := 0) dL_passes_16 (Or.inr (Or.inr fk)) rfl (by rw [fn]; decide) (by rw [fn]; decide) ?_
      refine s_goto (tgt := 24) dL_passes_17 (by decide) ?_
      refine s_iconst (v := 0) dL_passes_24 (by decide) ?_
      exact s_reti dL_passes_25 rfl rfl ⟨S1, by rw [← e] at hr; exact hr, Or.inl ⟨_, e, rfl, by rw [show lvZ (.int a) = 0 from if_pos c0]⟩⟩
    · refine s_lconst (v := 1) dL_passes_11 (by decide) ?_
      refine s_goto (tgt := 16) dL_passes_12 (by decide) ?_
      refine s_last' (j := 0) dL_passes_16 (Or.inr (Or.inr fk)) rfl (by rw [fn]; decide) (by rw [fn]; decide) ?_
      refine s_goto (tgt := 24) dL_passes_17 (by decide) ?_
      refine s_iconst (v := 0) dL_passes_24 (by decide) ?_
      exact s_reti dL_passes_25 rfl rfl ⟨S1, by rw [← e] at hr; exact hr, Or.inl ⟨_, e, rfl, by rw [show lvZ (.int a) = 1 from if_neg c0]⟩⟩
  · have hp2 := hp
    rcases List.mem_cons.mp hp with rfl | hp
    · refine s_catch (n := 92) (as := [.int o, .int s]) (st := [.int 0, .ref oa]) (x := 3) (pre := []) (suf := []) (sp := 0) (ep := 17) (ct := 21) (h := 20) (hn := 22) (j := 4) dL_passes_5 rfl (kv hW.th (by decide) rfl) rfl (by decide) (by decide) (by decide) (by decide) (Nat.le_of_ble_eq_true rfl) (m_X3_passes hW) (fun r S1 hr => absurd (hr.1.trans e) (by intro h; cases h)) (fun x' S1' hr => Sum.inr.inj (hr.1.trans e)) rfl (by decide) (by decide) (by decide) clkL_3 cstL_3 (fun z hz => absurd hz List.not_mem_nil) (by decide) (by decide) (Or.inr ⟨dL_passes_20, rfl⟩) (by decide) (fun S1 hr => ?_)
      refine s_iconst (v := 1) dL_passes_22 (by decide) ?_
      exact s_reti dL_passes_23 rfl rfl ⟨S1, by rw [e]; exact hr, Or.inr (Or.inr ⟨_, hp2, e, rfl, rfl⟩)⟩
    exact absurd hp List.not_mem_nil
set_option maxHeartbeats 4000000 in
theorem m_L_isBearable {tm : Nat × Nat} {S : Sto} {w : CAd} {c : CC} {y : Int32} {oa : Nat} (hk : sK S oa = 11) (hn : sN S oa = 1) (hW : CW tm S w c)  {a th : Int32} (hO : CI [(1, 1)] (f_X3_isBearable w.n c y).1 th a) : Ev tm M_L_isBearable [.ref w.th, .int y, .ref oa] S (LQ lvZ (PO tm w S (f_X3_isBearable w.n c y)) (f_X3_isBearable w.n c y).1 [(1, 1)] oa) := by
  refine ev_in ok_L_isBearable (Nat.le_of_ble_eq_true rfl) ?_
  refine s_aloadn dL_isBearable_0 rfl rfl ?_
  refine s_iconst (v := 0) dL_isBearable_1 (by decide) ?_
  refine s_aloadn dL_isBearable_2 rfl rfl ?_
  refine s_iloadn dL_isBearable_3 rfl rfl ?_
  rcases hO with ⟨e, -⟩ | ⟨p, hp, e, -⟩
  · refine s_cv1G (n := 93) dL_isBearable_4 rfl (kv hW.th (by decide) rfl) rfl (by decide) (by decide) (by decide) (by decide) (Nat.le_of_ble_eq_true rfl) (m_X3_isBearable hW) (fun r S1 hr => ?_) (fun x S1 hr => absurd (hr.1.trans e) (by intro h; cases h))
    have er := hr.1.trans e
    cases er
    obtain ⟨fk, fn⟩ := (PO.fr hr).out hk hn
    refine s_ifeq (tgt := 14) dL_isBearable_7 (by decide) (fun c0 => ?_) (fun c0 => ?_)
    · refine s_lconst (v := 0) dL_isBearable_14 (by decide) ?_
      refine s_last' (j := 0) dL_isBearable_15 (Or.inr (Or.inr fk)) rfl (by rw [fn]; decide) (by rw [fn]; decide) ?_
      refine s_goto (tgt := 22) dL_isBearable_16 (by decide) ?_
      refine s_iconst (v := 0) dL_isBearable_22 (by decide) ?_
      exact s_reti dL_isBearable_23 rfl rfl ⟨S1, by rw [← e] at hr; exact hr, Or.inl ⟨_, e, rfl, by rw [show lvZ (.int a) = 0 from if_pos c0]⟩⟩
    · refine s_lconst (v := 1) dL_isBearable_10 (by decide) ?_
      refine s_goto (tgt := 15) dL_isBearable_11 (by decide) ?_
      refine s_last' (j := 0) dL_isBearable_15 (Or.inr (Or.inr fk)) rfl (by rw [fn]; decide) (by rw [fn]; decide) ?_
      refine s_goto (tgt := 22) dL_isBearable_16 (by decide) ?_
      refine s_iconst (v := 0) dL_isBearable_22 (by decide) ?_
      exact s_reti dL_isBearable_23 rfl rfl ⟨S1, by rw [← e] at hr; exact hr, Or.inl ⟨_, e, rfl, by rw [show lvZ (.int a) = 1 from if_neg c0]⟩⟩
  · have hp2 := hp
    rcases List.mem_cons.mp hp with rfl | hp
    · refine s_catch (n := 93) (as := [.int y]) (st := [.int 0, .ref oa]) (x := 1) (pre := []) (suf := []) (sp := 0) (ep := 16) (ct := 13) (h := 19) (hn := 20) (j := 3) dL_isBearable_4 rfl (kv hW.th (by decide) rfl) rfl (by decide) (by decide) (by decide) (by decide) (Nat.le_of_ble_eq_true rfl) (m_X3_isBearable hW) (fun r S1 hr => absurd (hr.1.trans e) (by intro h; cases h)) (fun x' S1' hr => Sum.inr.inj (hr.1.trans e)) rfl (by decide) (by decide) (by decide) clkL_1 cstL_1 (fun z hz => absurd hz List.not_mem_nil) (by decide) (by decide) (Or.inl ⟨3, dL_isBearable_19, rfl, rfl⟩) (by decide) (fun S1 hr => ?_)
      refine s_iconst (v := 1) dL_isBearable_20 (by decide) ?_
      exact s_reti dL_isBearable_21 rfl rfl ⟨S1, by rw [e]; exact hr, Or.inr (Or.inr ⟨_, hp2, e, rfl, rfl⟩)⟩
    exact absurd hp List.not_mem_nil
set_option maxHeartbeats 4000000 in
theorem m_L_ofClaim {tm : Nat × Nat} {S : Sto} {w : CAd} {c : CC} {k q : Int32} {oa : Nat} (hk : sK S oa = 11) (hn : sN S oa = 1) (hW : CW tm S w c)  {a : Int64} {th : Int32} (hO : CJ [(3, 1), (1, 2)] (f_X3_ofClaim w.n c k q).1 th a) : Ev tm M_L_ofClaim [.ref w.th, .int k, .int q, .ref oa] S (LQ lvI (PO tm w S (f_X3_ofClaim w.n c k q)) (f_X3_ofClaim w.n c k q).1 [(3, 1), (1, 2)] oa) := by
  refine ev_in ok_L_ofClaim (Nat.le_of_ble_eq_true rfl) ?_
  refine s_aloadn dL_ofClaim_0 rfl rfl ?_
  refine s_iconst (v := 0) dL_ofClaim_1 (by decide) ?_
  refine s_aloadn dL_ofClaim_2 rfl rfl ?_
  refine s_iloadn dL_ofClaim_3 rfl rfl ?_
  refine s_iloadn dL_ofClaim_4 rfl rfl ?_
  rcases hO with ⟨e, -⟩ | ⟨p, hp, e, -⟩
  · refine s_cv2G (n := 94) dL_ofClaim_5 rfl (kv hW.th (by decide) rfl) rfl (by decide) (by decide) (by decide) (by decide) (Nat.le_of_ble_eq_true rfl) (m_X3_ofClaim hW) (fun r S1 hr => ?_) (fun x S1 hr => absurd (hr.1.trans e) (by intro h; cases h))
    have er := hr.1.trans e
    cases er
    obtain ⟨fk, fn⟩ := (PO.fr hr).out hk hn
    refine s_last' (j := 0) dL_ofClaim_8 (Or.inr (Or.inr fk)) rfl (by rw [fn]; decide) (by rw [fn]; decide) ?_
    refine s_goto (tgt := 20) dL_ofClaim_9 (by decide) ?_
    refine s_iconst (v := 0) dL_ofClaim_20 (by decide) ?_
    exact s_reti dL_ofClaim_21 rfl rfl ⟨S1, by rw [← e] at hr; exact hr, Or.inl ⟨_, e, rfl, rfl⟩⟩
  · have hp2 := hp
    rcases List.mem_cons.mp hp with rfl | hp
    · refine s_catch (n := 94) (as := [.int k, .int q]) (st := [.int 0, .ref oa]) (x := 3) (pre := []) (suf := [(0, (9, (16, 13)))]) (sp := 0) (ep := 9) (ct := 21) (h := 12) (hn := 14) (j := 4) dL_ofClaim_5 rfl (kv hW.th (by decide) rfl) rfl (by decide) (by decide) (by decide) (by decide) (Nat.le_of_ble_eq_true rfl) (m_X3_ofClaim hW) (fun r S1 hr => absurd (hr.1.trans e) (by intro h; cases h)) (fun x' S1' hr => Sum.inr.inj (hr.1.trans e)) rfl (by decide) (by decide) (by decide) clkL_3 cstL_3 (fun z hz => absurd hz List.not_mem_nil) (by decide) (by decide) (Or.inr ⟨dL_ofClaim_12, rfl⟩) (by decide) (fun S1 hr => ?_)
      refine s_iconst (v := 1) dL_ofClaim_14 (by decide) ?_
      exact s_reti dL_ofClaim_15 rfl rfl ⟨S1, by rw [e]; exact hr, Or.inr (Or.inr ⟨_, hp2, e, rfl, rfl⟩)⟩
    rcases List.mem_cons.mp hp with rfl | hp
    · refine s_catch (n := 94) (as := [.int k, .int q]) (st := [.int 0, .ref oa]) (x := 1) (pre := [(0, (9, (12, 21)))]) (suf := []) (sp := 0) (ep := 9) (ct := 13) (h := 16) (hn := 18) (j := 4) dL_ofClaim_5 rfl (kv hW.th (by decide) rfl) rfl (by decide) (by decide) (by decide) (by decide) (Nat.le_of_ble_eq_true rfl) (m_X3_ofClaim hW) (fun r S1 hr => absurd (hr.1.trans e) (by intro h; cases h)) (fun x' S1' hr => Sum.inr.inj (hr.1.trans e)) rfl (by decide) (by decide) (by decide) clkL_1 cstL_1 (fun z hz => by rcases List.mem_cons.mp hz with rfl | hz; exact ⟨by decide, 3, by decide, by decide, by decide, clkL_3⟩; exact absurd hz List.not_mem_nil) (by decide) (by decide) (Or.inr ⟨dL_ofClaim_16, rfl⟩) (by decide) (fun S1 hr => ?_)
      refine s_iconst (v := 2) dL_ofClaim_18 (by decide) ?_
      exact s_reti dL_ofClaim_19 rfl rfl ⟨S1, by rw [e]; exact hr, Or.inr (Or.inr ⟨_, hp2, e, rfl, rfl⟩)⟩
    exact absurd hp List.not_mem_nil
set_option maxHeartbeats 4000000 in
theorem m_L_paidAnew {tm : Nat × Nat} {S : Sto} {w : CAd} {c : CC} {k : Int32} {oa : Nat} (hk : sK S oa = 11) (hn : sN S oa = 1) (hW : CW tm S w c)  {a : Int64} {th : Int32} (hO : CJ [(3, 1)] (f_X3_paidAnew w.n c k).1 th a) : Ev tm M_L_paidAnew [.ref w.th, .int k, .ref oa] S (LQ lvI (PO tm w S (f_X3_paidAnew w.n c k)) (f_X3_paidAnew w.n c k).1 [(3, 1)] oa) := by
  refine ev_in ok_L_paidAnew (Nat.le_of_ble_eq_true rfl) ?_
  refine s_aloadn dL_paidAnew_0 rfl rfl ?_
  refine s_iconst (v := 0) dL_paidAnew_1 (by decide) ?_
  refine s_aloadn dL_paidAnew_2 rfl rfl ?_
  refine s_iloadn dL_paidAnew_3 rfl rfl ?_
  rcases hO with ⟨e, -⟩ | ⟨p, hp, e, -⟩
  · refine s_cv1G (n := 95) dL_paidAnew_4 rfl (kv hW.th (by decide) rfl) rfl (by decide) (by decide) (by decide) (by decide) (Nat.le_of_ble_eq_true rfl) (m_X3_paidAnew hW) (fun r S1 hr => ?_) (fun x S1 hr => absurd (hr.1.trans e) (by intro h; cases h))
    have er := hr.1.trans e
    cases er
    obtain ⟨fk, fn⟩ := (PO.fr hr).out hk hn
    refine s_last' (j := 0) dL_paidAnew_7 (Or.inr (Or.inr fk)) rfl (by rw [fn]; decide) (by rw [fn]; decide) ?_
    refine s_goto (tgt := 14) dL_paidAnew_8 (by decide) ?_
    refine s_iconst (v := 0) dL_paidAnew_14 (by decide) ?_
    exact s_reti dL_paidAnew_15 rfl rfl ⟨S1, by rw [← e] at hr; exact hr, Or.inl ⟨_, e, rfl, rfl⟩⟩
  · have hp2 := hp
    rcases List.mem_cons.mp hp with rfl | hp
    · refine s_catch (n := 95) (as := [.int k]) (st := [.int 0, .ref oa]) (x := 3) (pre := []) (suf := []) (sp := 0) (ep := 8) (ct := 21) (h := 11) (hn := 12) (j := 3) dL_paidAnew_4 rfl (kv hW.th (by decide) rfl) rfl (by decide) (by decide) (by decide) (by decide) (Nat.le_of_ble_eq_true rfl) (m_X3_paidAnew hW) (fun r S1 hr => absurd (hr.1.trans e) (by intro h; cases h)) (fun x' S1' hr => Sum.inr.inj (hr.1.trans e)) rfl (by decide) (by decide) (by decide) clkL_3 cstL_3 (fun z hz => absurd hz List.not_mem_nil) (by decide) (by decide) (Or.inl ⟨3, dL_paidAnew_11, rfl, rfl⟩) (by decide) (fun S1 hr => ?_)
      refine s_iconst (v := 1) dL_paidAnew_12 (by decide) ?_
      exact s_reti dL_paidAnew_13 rfl rfl ⟨S1, by rw [e]; exact hr, Or.inr (Or.inr ⟨_, hp2, e, rfl, rfl⟩)⟩
    exact absurd hp List.not_mem_nil
set_option maxHeartbeats 4000000 in
theorem m_L_ofState {tm : Nat × Nat} {S : Sto} {w : CAd} {c : CC} {q : Int32} {oa : Nat} (hk : sK S oa = 11) (hn : sN S oa = 1) (hW : CW tm S w c)  {a : Int64} {th : Int32} (hO : CJ [(1, 1)] (f_X3_ofState w.n c q).1 th a) : Ev tm M_L_ofState [.ref w.th, .int q, .ref oa] S (LQ lvI (PO tm w S (f_X3_ofState w.n c q)) (f_X3_ofState w.n c q).1 [(1, 1)] oa) := by
  refine ev_in ok_L_ofState (Nat.le_of_ble_eq_true rfl) ?_
  refine s_aloadn dL_ofState_0 rfl rfl ?_
  refine s_iconst (v := 0) dL_ofState_1 (by decide) ?_
  refine s_aloadn dL_ofState_2 rfl rfl ?_
  refine s_iloadn dL_ofState_3 rfl rfl ?_
  rcases hO with ⟨e, -⟩ | ⟨p, hp, e, -⟩
  · refine s_cv1G (n := 96) dL_ofState_4 rfl (kv hW.th (by decide) rfl) rfl (by decide) (by decide) (by decide) (by decide) (Nat.le_of_ble_eq_true rfl) (m_X3_ofState hW) (fun r S1 hr => ?_) (fun x S1 hr => absurd (hr.1.trans e) (by intro h; cases h))
    have er := hr.1.trans e
    cases er
    obtain ⟨fk, fn⟩ := (PO.fr hr).out hk hn
    refine s_last' (j := 0) dL_ofState_7 (Or.inr (Or.inr fk)) rfl (by rw [fn]; decide) (by rw [fn]; decide) ?_
    refine s_goto (tgt := 14) dL_ofState_8 (by decide) ?_
    refine s_iconst (v := 0) dL_ofState_14 (by decide) ?_
    exact s_reti dL_ofState_15 rfl rfl ⟨S1, by rw [← e] at hr; exact hr, Or.inl ⟨_, e, rfl, rfl⟩⟩
  · have hp2 := hp
    rcases List.mem_cons.mp hp with rfl | hp
    · refine s_catch (n := 96) (as := [.int q]) (st := [.int 0, .ref oa]) (x := 1) (pre := []) (suf := []) (sp := 0) (ep := 8) (ct := 13) (h := 11) (hn := 12) (j := 3) dL_ofState_4 rfl (kv hW.th (by decide) rfl) rfl (by decide) (by decide) (by decide) (by decide) (Nat.le_of_ble_eq_true rfl) (m_X3_ofState hW) (fun r S1 hr => absurd (hr.1.trans e) (by intro h; cases h)) (fun x' S1' hr => Sum.inr.inj (hr.1.trans e)) rfl (by decide) (by decide) (by decide) clkL_1 cstL_1 (fun z hz => absurd hz List.not_mem_nil) (by decide) (by decide) (Or.inl ⟨3, dL_ofState_11, rfl, rfl⟩) (by decide) (fun S1 hr => ?_)
      refine s_iconst (v := 1) dL_ofState_12 (by decide) ?_
      exact s_reti dL_ofState_13 rfl rfl ⟨S1, by rw [e]; exact hr, Or.inr (Or.inr ⟨_, hp2, e, rfl, rfl⟩)⟩
    exact absurd hp List.not_mem_nil
