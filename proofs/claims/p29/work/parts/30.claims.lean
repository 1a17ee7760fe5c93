/-! THE PROGRAM, 11: the public calls that add, and the last ones -/
theorem newc_ca0 {w : CAd} {a pa : Nat} : (w.newc a pa).ca (w.newc a pa).n = a := if_pos rfl
theorem newc_cai {w : CAd} {a pa i : Nat} (h : i < w.n) : (w.newc a pa).ca i = w.ca i := if_neg (by omega)
theorem rm1 {n : Nat} (h : nI n + 1 ≤ 40) (hn : n ≤ 40) : n < 40 := by
  rw [nI_1, Int32.le_iff_toInt_le, nI_toInt (by omega)] at h
  have h : ((n + 1 : Nat) : Int) ≤ 40 := h
  omega
def f_X3_claim (n : Nat) (c : CC) (kd ld p q y rk sr z : Int32) : Out × Nat × CC := if rng kd 0 4 then (if rng ld 0 7 then (if rng p 1 1000000 then (if rng q 0 1000 then (if rng y 1 30 then (if rng rk 0 2 then (if kd = 1 then (if kd = 1 then (if rng sr 0 3 then (if nI n + 1 ≤ 40 then t_X3_claim n (c.newc n (clI kd ld rk sr z) (fun _ => 0)) p q y else (.inr 2, n, c)) else (.inr 1, n, c)) else (if rng sr 0 (-1) then (if nI n + 1 ≤ 40 then t_X3_claim n (c.newc n (clI kd ld rk sr z) (fun _ => 0)) p q y else (.inr 2, n, c)) else (.inr 1, n, c))) else (if kd = 1 then (if rng sr (-1) 3 then (if nI n + 1 ≤ 40 then t_X3_claim n (c.newc n (clI kd ld rk sr z) (fun _ => 0)) p q y else (.inr 2, n, c)) else (.inr 1, n, c)) else (if rng sr (-1) (-1) then (if nI n + 1 ≤ 40 then t_X3_claim n (c.newc n (clI kd ld rk sr z) (fun _ => 0)) p q y else (.inr 2, n, c)) else (.inr 1, n, c)))) else (.inr 1, n, c)) else (.inr 1, n, c)) else (.inr 1, n, c)) else (.inr 1, n, c)) else (.inr 1, n, c)) else (.inr 1, n, c)
set_option maxHeartbeats 4000000 in
theorem m_X3_claim {tm : Nat × Nat} {S : Sto} {w : CAd} {c : CC} {kd ld p q y rk sr z : Int32} (hW : CW tm S w c) (hm : w.m = w.n) (hz : z = 0 ∨ z = 1) : Ev tm M_X3_claim [.ref w.th, .int kd, .int ld, .int p, .int q, .int y, .int rk, .int sr, .int z] S (PA tm w.th w.oa w.no w.nt S (f_X3_claim w.n c kd ld p q y rk sr z)) := by
  have hF : FrC S S := FrC.rf
  refine ev_in ok_X3_claim (Nat.le_of_ble_eq_true rfl) ?_
  have hn40 := hW.n40
  refine s_iloadn dX3_claim_0 rfl rfl ?_
  refine s_iconst (v := 0) dX3_claim_1 (by decide) ?_
  refine s_iconst (v := 4) dX3_claim_2 (by decide) ?_
  by_cases r_3 : rng kd 0 4
  · refine s_cs3V (n := 11) dX3_claim_3 rfl rfl (by decide) (by decide) (by decide) (by decide) (Nat.le_of_ble_eq_true rfl) (m_needRange_ok r_3) ?_
    refine s_iloadn dX3_claim_6 rfl rfl ?_
    refine s_iconst (v := 0) dX3_claim_7 (by decide) ?_
    refine s_bipush (v := 7) dX3_claim_8 (by decide) ?_
    by_cases r_10 : rng ld 0 7
    · refine s_cs3V (n := 11) dX3_claim_10 rfl rfl (by decide) (by decide) (by decide) (by decide) (Nat.le_of_ble_eq_true rfl) (m_needRange_ok r_10) ?_
      refine s_iloadn dX3_claim_13 rfl rfl ?_
      refine s_iconst (v := 1) dX3_claim_14 (by decide) ?_
      refine s_ldc (v := 1000000) dX3_claim_15 cst_RX3_63 ?_
      by_cases r_17 : rng p 1 1000000
      · refine s_cs3V (n := 11) dX3_claim_17 rfl rfl (by decide) (by decide) (by decide) (by decide) (Nat.le_of_ble_eq_true rfl) (m_needRange_ok r_17) ?_
        refine s_iload dX3_claim_20 rfl ?_
        refine s_iconst (v := 0) dX3_claim_22 (by decide) ?_
        refine s_sipush (v := 1000) dX3_claim_23 (by decide) ?_
        by_cases r_26 : rng q 0 1000
        · refine s_cs3V (n := 11) dX3_claim_26 rfl rfl (by decide) (by decide) (by decide) (by decide) (Nat.le_of_ble_eq_true rfl) (m_needRange_ok r_26) ?_
          refine s_iload dX3_claim_29 rfl ?_
          refine s_iconst (v := 1) dX3_claim_31 (by decide) ?_
          refine s_bipush (v := 30) dX3_claim_32 (by decide) ?_
          by_cases r_34 : rng y 1 30
          · refine s_cs3V (n := 11) dX3_claim_34 rfl rfl (by decide) (by decide) (by decide) (by decide) (Nat.le_of_ble_eq_true rfl) (m_needRange_ok r_34) ?_
            refine s_iload dX3_claim_37 rfl ?_
            refine s_iconst (v := 0) dX3_claim_39 (by decide) ?_
            refine s_iconst (v := 2) dX3_claim_40 (by decide) ?_
            by_cases r_41 : rng rk 0 2
            · refine s_cs3V (n := 11) dX3_claim_41 rfl rfl (by decide) (by decide) (by decide) (by decide) (Nat.le_of_ble_eq_true rfl) (m_needRange_ok r_41) ?_
              refine s_iload dX3_claim_44 rfl ?_
              refine s_iloadn dX3_claim_46 rfl rfl ?_
              refine s_iconst (v := 1) dX3_claim_47 (by decide) ?_
              refine s_icne (tgt := 55) dX3_claim_48 (by decide) (fun c_48 => ?_) (fun c_48 => ?_)
              · skip
                refine s_iconst (v := (-1)) dX3_claim_55 (by decide) ?_
                refine s_iloadn dX3_claim_56 rfl rfl ?_
                refine s_iconst (v := 1) dX3_claim_57 (by decide) ?_
                refine s_icne (tgt := 65) dX3_claim_58 (by decide) (fun c_58 => ?_) (fun c_58 => ?_)
                · skip
                  refine s_iconst (v := (-1)) dX3_claim_65 (by decide) ?_
                  by_cases r_66 : rng sr (-1) (-1)
                  · refine s_cs3V (n := 11) dX3_claim_66 rfl rfl (by decide) (by decide) (by decide) (by decide) (Nat.le_of_ble_eq_true rfl) (m_needRange_ok r_66) ?_
                    refine s_aloadn dX3_claim_69 rfl rfl ?_
                    refine s_iconst (v := 1) dX3_claim_70 (by decide) ?_
                    by_cases r_71 : nI w.n + 1 ≤ 40
                    · refine s_cv1V (n := 7) dX3_claim_71 rfl (kv hW.th (by decide) rfl) rfl (by decide) (by decide) (by decide) (by decide) (Nat.le_of_ble_eq_true rfl) (m_needRoom_ok hW r_71) ?_
                      refine s_new (n := 2) dX3_claim_74 rfl (by decide) (by decide) (fun a ha => ?_)
                      have hWa := hW.fr (S1 := sal S a 1 0) (fun b hb => same5.rf.A (fun e => ck_ne hb (by rw [e]; exact ha)))
                      refine s_dup dX3_claim_77 rfl ?_
                      refine s_iloadn dX3_claim_78 rfl rfl ?_
                      refine s_iloadn dX3_claim_79 rfl rfl ?_
                      refine s_iload dX3_claim_80 rfl ?_
                      refine s_iload dX3_claim_82 rfl ?_
                      refine s_iload dX3_claim_84 rfl ?_
                      refine s_ci5G (n := 3) dX3_claim_86 rfl rfl (by decide) (by decide) (by decide) (by decide) (Nat.le_of_ble_eq_true rfl) (m_X0_init hW hm ha hz) (fun r S1 hr => ?_) (fun x S2 hr => by obtain ⟨e, -⟩ := hr; cases e)
                      obtain ⟨e, pa, hW1, hF1⟩ := hr
                      cases e
                      have eF : f_X3_claim w.n c kd ld p q y rk sr z = t_X3_claim w.n (c.newc w.n (clI kd ld rk sr z) (fun _ => 0)) p q y := by unfold f_X3_claim; rw [if_pos r_3, if_pos r_10, if_pos r_17, if_pos r_26, if_pos r_34, if_pos r_41, if_neg c_48, if_neg c_58, if_pos r_66, if_pos r_71]
                      rw [eF]
                      have ht := tm_X3_claim (w := w.newc a pa) (S0 := S) (p := p) (q := q) (y := y) hW1 rfl (rm1 r_71 hn40) hF1
                      rw [newc_ca0] at ht
                      exact s_sub (lo' := [(0, .ref w.th), (3, .int p), (4, .int q), (5, .int y)]) (List.forall_mem_cons.mpr ⟨rfl, List.forall_mem_cons.mpr ⟨rfl, List.forall_mem_cons.mpr ⟨rfl, List.forall_mem_cons.mpr ⟨rfl, fun _ h => absurd h List.not_mem_nil⟩⟩⟩⟩) (by decide) (by decide) ht
                    · exact s_cv1T (n := 7) dX3_claim_71 rfl (kv hW.th (by decide) rfl) rfl (by decide) (by decide) (by decide) (by decide) (Nat.le_of_ble_eq_true rfl) (m_needRoom_no hW r_71) rfl (PA.of (w' := w) (F := f_X3_claim w.n c kd ld p q y rk sr z) (x := .inr 2) (n := w.n) (by unfold f_X3_claim; rw [if_pos r_3, if_pos r_10, if_pos r_17, if_pos r_26, if_pos r_34, if_pos r_41, if_neg c_48, if_neg c_58, if_pos r_66, if_neg r_71]) ⟨rfl, rfl, rfl, rfl⟩ rfl hm hW hF)
                  · exact s_cs3T (n := 11) dX3_claim_66 rfl rfl (by decide) (by decide) (by decide) (by decide) (Nat.le_of_ble_eq_true rfl) (m_needRange_no r_66) rfl (PA.of (w' := w) (F := f_X3_claim w.n c kd ld p q y rk sr z) (x := .inr 1) (n := w.n) (by unfold f_X3_claim; rw [if_pos r_3, if_pos r_10, if_pos r_17, if_pos r_26, if_pos r_34, if_pos r_41, if_neg c_48, if_neg c_58, if_neg r_66]) ⟨rfl, rfl, rfl, rfl⟩ rfl hm hW hF)
                · skip
                  refine s_iconst (v := 3) dX3_claim_61 (by decide) ?_
                  refine s_goto (tgt := 66) dX3_claim_62 (by decide) ?_
                  by_cases r_66 : rng sr (-1) 3
                  · refine s_cs3V (n := 11) dX3_claim_66 rfl rfl (by decide) (by decide) (by decide) (by decide) (Nat.le_of_ble_eq_true rfl) (m_needRange_ok r_66) ?_
                    refine s_aloadn dX3_claim_69 rfl rfl ?_
                    refine s_iconst (v := 1) dX3_claim_70 (by decide) ?_
                    by_cases r_71 : nI w.n + 1 ≤ 40
                    · refine s_cv1V (n := 7) dX3_claim_71 rfl (kv hW.th (by decide) rfl) rfl (by decide) (by decide) (by decide) (by decide) (Nat.le_of_ble_eq_true rfl) (m_needRoom_ok hW r_71) ?_
                      refine s_new (n := 2) dX3_claim_74 rfl (by decide) (by decide) (fun a ha => ?_)
                      have hWa := hW.fr (S1 := sal S a 1 0) (fun b hb => same5.rf.A (fun e => ck_ne hb (by rw [e]; exact ha)))
                      refine s_dup dX3_claim_77 rfl ?_
                      refine s_iloadn dX3_claim_78 rfl rfl ?_
                      refine s_iloadn dX3_claim_79 rfl rfl ?_
                      refine s_iload dX3_claim_80 rfl ?_
                      refine s_iload dX3_claim_82 rfl ?_
                      refine s_iload dX3_claim_84 rfl ?_
                      refine s_ci5G (n := 3) dX3_claim_86 rfl rfl (by decide) (by decide) (by decide) (by decide) (Nat.le_of_ble_eq_true rfl) (m_X0_init hW hm ha hz) (fun r S1 hr => ?_) (fun x S2 hr => by obtain ⟨e, -⟩ := hr; cases e)
                      obtain ⟨e, pa, hW1, hF1⟩ := hr
                      cases e
                      have eF : f_X3_claim w.n c kd ld p q y rk sr z = t_X3_claim w.n (c.newc w.n (clI kd ld rk sr z) (fun _ => 0)) p q y := by unfold f_X3_claim; rw [if_pos r_3, if_pos r_10, if_pos r_17, if_pos r_26, if_pos r_34, if_pos r_41, if_neg c_48, if_pos c_58, if_pos r_66, if_pos r_71]
                      rw [eF]
                      have ht := tm_X3_claim (w := w.newc a pa) (S0 := S) (p := p) (q := q) (y := y) hW1 rfl (rm1 r_71 hn40) hF1
                      rw [newc_ca0] at ht
                      exact s_sub (lo' := [(0, .ref w.th), (3, .int p), (4, .int q), (5, .int y)]) (List.forall_mem_cons.mpr ⟨rfl, List.forall_mem_cons.mpr ⟨rfl, List.forall_mem_cons.mpr ⟨rfl, List.forall_mem_cons.mpr ⟨rfl, fun _ h => absurd h List.not_mem_nil⟩⟩⟩⟩) (by decide) (by decide) ht
                    · exact s_cv1T (n := 7) dX3_claim_71 rfl (kv hW.th (by decide) rfl) rfl (by decide) (by decide) (by decide) (by decide) (Nat.le_of_ble_eq_true rfl) (m_needRoom_no hW r_71) rfl (PA.of (w' := w) (F := f_X3_claim w.n c kd ld p q y rk sr z) (x := .inr 2) (n := w.n) (by unfold f_X3_claim; rw [if_pos r_3, if_pos r_10, if_pos r_17, if_pos r_26, if_pos r_34, if_pos r_41, if_neg c_48, if_pos c_58, if_pos r_66, if_neg r_71]) ⟨rfl, rfl, rfl, rfl⟩ rfl hm hW hF)
                  · exact s_cs3T (n := 11) dX3_claim_66 rfl rfl (by decide) (by decide) (by decide) (by decide) (Nat.le_of_ble_eq_true rfl) (m_needRange_no r_66) rfl (PA.of (w' := w) (F := f_X3_claim w.n c kd ld p q y rk sr z) (x := .inr 1) (n := w.n) (by unfold f_X3_claim; rw [if_pos r_3, if_pos r_10, if_pos r_17, if_pos r_26, if_pos r_34, if_pos r_41, if_neg c_48, if_pos c_58, if_neg r_66]) ⟨rfl, rfl, rfl, rfl⟩ rfl hm hW hF)
              · skip
                refine s_iconst (v := 0) dX3_claim_51 (by decide) ?_
                refine s_goto (tgt := 56) dX3_claim_52 (by decide) ?_
                refine s_iloadn dX3_claim_56 rfl rfl ?_
                refine s_iconst (v := 1) dX3_claim_57 (by decide) ?_
                refine s_icne (tgt := 65) dX3_claim_58 (by decide) (fun c_58 => ?_) (fun c_58 => ?_)
                · skip
                  refine s_iconst (v := (-1)) dX3_claim_65 (by decide) ?_
                  by_cases r_66 : rng sr 0 (-1)
                  · refine s_cs3V (n := 11) dX3_claim_66 rfl rfl (by decide) (by decide) (by decide) (by decide) (Nat.le_of_ble_eq_true rfl) (m_needRange_ok r_66) ?_
                    refine s_aloadn dX3_claim_69 rfl rfl ?_
                    refine s_iconst (v := 1) dX3_claim_70 (by decide) ?_
                    by_cases r_71 : nI w.n + 1 ≤ 40
                    · refine s_cv1V (n := 7) dX3_claim_71 rfl (kv hW.th (by decide) rfl) rfl (by decide) (by decide) (by decide) (by decide) (Nat.le_of_ble_eq_true rfl) (m_needRoom_ok hW r_71) ?_
                      refine s_new (n := 2) dX3_claim_74 rfl (by decide) (by decide) (fun a ha => ?_)
                      have hWa := hW.fr (S1 := sal S a 1 0) (fun b hb => same5.rf.A (fun e => ck_ne hb (by rw [e]; exact ha)))
                      refine s_dup dX3_claim_77 rfl ?_
                      refine s_iloadn dX3_claim_78 rfl rfl ?_
                      refine s_iloadn dX3_claim_79 rfl rfl ?_
                      refine s_iload dX3_claim_80 rfl ?_
                      refine s_iload dX3_claim_82 rfl ?_
                      refine s_iload dX3_claim_84 rfl ?_
                      refine s_ci5G (n := 3) dX3_claim_86 rfl rfl (by decide) (by decide) (by decide) (by decide) (Nat.le_of_ble_eq_true rfl) (m_X0_init hW hm ha hz) (fun r S1 hr => ?_) (fun x S2 hr => by obtain ⟨e, -⟩ := hr; cases e)
                      obtain ⟨e, pa, hW1, hF1⟩ := hr
                      cases e
                      have eF : f_X3_claim w.n c kd ld p q y rk sr z = t_X3_claim w.n (c.newc w.n (clI kd ld rk sr z) (fun _ => 0)) p q y := by unfold f_X3_claim; rw [if_pos r_3, if_pos r_10, if_pos r_17, if_pos r_26, if_pos r_34, if_pos r_41, if_pos c_48, if_neg c_58, if_pos r_66, if_pos r_71]
                      rw [eF]
                      have ht := tm_X3_claim (w := w.newc a pa) (S0 := S) (p := p) (q := q) (y := y) hW1 rfl (rm1 r_71 hn40) hF1
                      rw [newc_ca0] at ht
                      exact s_sub (lo' := [(0, .ref w.th), (3, .int p), (4, .int q), (5, .int y)]) (List.forall_mem_cons.mpr ⟨rfl, List.forall_mem_cons.mpr ⟨rfl, List.forall_mem_cons.mpr ⟨rfl, List.forall_mem_cons.mpr ⟨rfl, fun _ h => absurd h List.not_mem_nil⟩⟩⟩⟩) (by decide) (by decide) ht
                    · exact s_cv1T (n := 7) dX3_claim_71 rfl (kv hW.th (by decide) rfl) rfl (by decide) (by decide) (by decide) (by decide) (Nat.le_of_ble_eq_true rfl) (m_needRoom_no hW r_71) rfl (PA.of (w' := w) (F := f_X3_claim w.n c kd ld p q y rk sr z) (x := .inr 2) (n := w.n) (by unfold f_X3_claim; rw [if_pos r_3, if_pos r_10, if_pos r_17, if_pos r_26, if_pos r_34, if_pos r_41, if_pos c_48, if_neg c_58, if_pos r_66, if_neg r_71]) ⟨rfl, rfl, rfl, rfl⟩ rfl hm hW hF)
                  · exact s_cs3T (n := 11) dX3_claim_66 rfl rfl (by decide) (by decide) (by decide) (by decide) (Nat.le_of_ble_eq_true rfl) (m_needRange_no r_66) rfl (PA.of (w' := w) (F := f_X3_claim w.n c kd ld p q y rk sr z) (x := .inr 1) (n := w.n) (by unfold f_X3_claim; rw [if_pos r_3, if_pos r_10, if_pos r_17, if_pos r_26, if_pos r_34, if_pos r_41, if_pos c_48, if_neg c_58, if_neg r_66]) ⟨rfl, rfl, rfl, rfl⟩ rfl hm hW hF)
                · skip
                  refine s_iconst (v := 3) dX3_claim_61 (by decide) ?_
                  refine s_goto (tgt := 66) dX3_claim_62 (by decide) ?_
                  by_cases r_66 : rng sr 0 3
                  · refine s_cs3V (n := 11) dX3_claim_66 rfl rfl (by decide) (by decide) (by decide) (by decide) (Nat.le_of_ble_eq_true rfl) (m_needRange_ok r_66) ?_
                    refine s_aloadn dX3_claim_69 rfl rfl ?_
                    refine s_iconst (v := 1) dX3_claim_70 (by decide) ?_
                    by_cases r_71 : nI w.n + 1 ≤ 40
                    · refine s_cv1V (n := 7) dX3_claim_71 rfl (kv hW.th (by decide) rfl) rfl (by decide) (by decide) (by decide) (by decide) (Nat.le_of_ble_eq_true rfl) (m_needRoom_ok hW r_71) ?_
                      refine s_new (n := 2) dX3_claim_74 rfl (by decide) (by decide) (fun a ha => ?_)
                      have hWa := hW.fr (S1 := sal S a 1 0) (fun b hb => same5.rf.A (fun e => ck_ne hb (by rw [e]; exact ha)))
                      refine s_dup dX3_claim_77 rfl ?_
                      refine s_iloadn dX3_claim_78 rfl rfl ?_
                      refine s_iloadn dX3_claim_79 rfl rfl ?_
                      refine s_iload dX3_claim_80 rfl ?_
                      refine s_iload dX3_claim_82 rfl ?_
                      refine s_iload dX3_claim_84 rfl ?_
                      refine s_ci5G (n := 3) dX3_claim_86 rfl rfl (by decide) (by decide) (by decide) (by decide) (Nat.le_of_ble_eq_true rfl) (m_X0_init hW hm ha hz) (fun r S1 hr => ?_) (fun x S2 hr => by obtain ⟨e, -⟩ := hr; cases e)
                      obtain ⟨e, pa, hW1, hF1⟩ := hr
                      cases e
                      have eF : f_X3_claim w.n c kd ld p q y rk sr z = t_X3_claim w.n (c.newc w.n (clI kd ld rk sr z) (fun _ => 0)) p q y := by unfold f_X3_claim; rw [if_pos r_3, if_pos r_10, if_pos r_17, if_pos r_26, if_pos r_34, if_pos r_41, if_pos c_48, if_pos c_58, if_pos r_66, if_pos r_71]
                      rw [eF]
                      have ht := tm_X3_claim (w := w.newc a pa) (S0 := S) (p := p) (q := q) (y := y) hW1 rfl (rm1 r_71 hn40) hF1
                      rw [newc_ca0] at ht
                      exact s_sub (lo' := [(0, .ref w.th), (3, .int p), (4, .int q), (5, .int y)]) (List.forall_mem_cons.mpr ⟨rfl, List.forall_mem_cons.mpr ⟨rfl, List.forall_mem_cons.mpr ⟨rfl, List.forall_mem_cons.mpr ⟨rfl, fun _ h => absurd h List.not_mem_nil⟩⟩⟩⟩) (by decide) (by decide) ht
                    · exact s_cv1T (n := 7) dX3_claim_71 rfl (kv hW.th (by decide) rfl) rfl (by decide) (by decide) (by decide) (by decide) (Nat.le_of_ble_eq_true rfl) (m_needRoom_no hW r_71) rfl (PA.of (w' := w) (F := f_X3_claim w.n c kd ld p q y rk sr z) (x := .inr 2) (n := w.n) (by unfold f_X3_claim; rw [if_pos r_3, if_pos r_10, if_pos r_17, if_pos r_26, if_pos r_34, if_pos r_41, if_pos c_48, if_pos c_58, if_pos r_66, if_neg r_71]) ⟨rfl, rfl, rfl, rfl⟩ rfl hm hW hF)
                  · exact s_cs3T (n := 11) dX3_claim_66 rfl rfl (by decide) (by decide) (by decide) (by decide) (Nat.le_of_ble_eq_true rfl) (m_needRange_no r_66) rfl (PA.of (w' := w) (F := f_X3_claim w.n c kd ld p q y rk sr z) (x := .inr 1) (n := w.n) (by unfold f_X3_claim; rw [if_pos r_3, if_pos r_10, if_pos r_17, if_pos r_26, if_pos r_34, if_pos r_41, if_pos c_48, if_pos c_58, if_neg r_66]) ⟨rfl, rfl, rfl, rfl⟩ rfl hm hW hF)
            · exact s_cs3T (n := 11) dX3_claim_41 rfl rfl (by decide) (by decide) (by decide) (by decide) (Nat.le_of_ble_eq_true rfl) (m_needRange_no r_41) rfl (PA.of (w' := w) (F := f_X3_claim w.n c kd ld p q y rk sr z) (x := .inr 1) (n := w.n) (by unfold f_X3_claim; rw [if_pos r_3, if_pos r_10, if_pos r_17, if_pos r_26, if_pos r_34, if_neg r_41]) ⟨rfl, rfl, rfl, rfl⟩ rfl hm hW hF)
          · exact s_cs3T (n := 11) dX3_claim_34 rfl rfl (by decide) (by decide) (by decide) (by decide) (Nat.le_of_ble_eq_true rfl) (m_needRange_no r_34) rfl (PA.of (w' := w) (F := f_X3_claim w.n c kd ld p q y rk sr z) (x := .inr 1) (n := w.n) (by unfold f_X3_claim; rw [if_pos r_3, if_pos r_10, if_pos r_17, if_pos r_26, if_neg r_34]) ⟨rfl, rfl, rfl, rfl⟩ rfl hm hW hF)
        · exact s_cs3T (n := 11) dX3_claim_26 rfl rfl (by decide) (by decide) (by decide) (by decide) (Nat.le_of_ble_eq_true rfl) (m_needRange_no r_26) rfl (PA.of (w' := w) (F := f_X3_claim w.n c kd ld p q y rk sr z) (x := .inr 1) (n := w.n) (by unfold f_X3_claim; rw [if_pos r_3, if_pos r_10, if_pos r_17, if_neg r_26]) ⟨rfl, rfl, rfl, rfl⟩ rfl hm hW hF)
      · exact s_cs3T (n := 11) dX3_claim_17 rfl rfl (by decide) (by decide) (by decide) (by decide) (Nat.le_of_ble_eq_true rfl) (m_needRange_no r_17) rfl (PA.of (w' := w) (F := f_X3_claim w.n c kd ld p q y rk sr z) (x := .inr 1) (n := w.n) (by unfold f_X3_claim; rw [if_pos r_3, if_pos r_10, if_neg r_17]) ⟨rfl, rfl, rfl, rfl⟩ rfl hm hW hF)
    · exact s_cs3T (n := 11) dX3_claim_10 rfl rfl (by decide) (by decide) (by decide) (by decide) (Nat.le_of_ble_eq_true rfl) (m_needRange_no r_10) rfl (PA.of (w' := w) (F := f_X3_claim w.n c kd ld p q y rk sr z) (x := .inr 1) (n := w.n) (by unfold f_X3_claim; rw [if_pos r_3, if_neg r_10]) ⟨rfl, rfl, rfl, rfl⟩ rfl hm hW hF)
  · exact s_cs3T (n := 11) dX3_claim_3 rfl rfl (by decide) (by decide) (by decide) (by decide) (Nat.le_of_ble_eq_true rfl) (m_needRange_no r_3) rfl (PA.of (w' := w) (F := f_X3_claim w.n c kd ld p q y rk sr z) (x := .inr 1) (n := w.n) (by unfold f_X3_claim; rw [if_neg r_3]) ⟨rfl, rfl, rfl, rfl⟩ rfl hm hW hF)
def f_X3_payTranche (n : Nat) (c : CC) : Out × Nat × CC := t_X3_payTranche n (c.newc n (clI 4 7 0 (-1) 0) (fun _ => 0))
set_option maxHeartbeats 4000000 in
theorem m_X3_payTranche {tm : Nat × Nat} {S : Sto} {w : CAd} {c : CC}  (hW : CW tm S w c) (hm : w.m = w.n) (hn : w.n < 40) : Ev tm M_X3_payTranche [.ref w.th] S (PA tm w.th w.oa w.no w.nt S (f_X3_payTranche w.n c)) := by
  have hF : FrC S S := FrC.rf
  refine ev_in ok_X3_payTranche (Nat.le_of_ble_eq_true rfl) ?_
  have hn40 := hW.n40
  refine s_new (n := 2) dX3_payTranche_0 rfl (by decide) (by decide) (fun a ha => ?_)
  have hWa := hW.fr (S1 := sal S a 1 0) (fun b hb => same5.rf.A (fun e => ck_ne hb (by rw [e]; exact ha)))
  refine s_dup dX3_payTranche_3 rfl ?_
  refine s_iconst (v := 4) dX3_payTranche_4 (by decide) ?_
  refine s_bipush (v := 7) dX3_payTranche_5 (by decide) ?_
  refine s_iconst (v := 0) dX3_payTranche_7 (by decide) ?_
  refine s_iconst (v := (-1)) dX3_payTranche_8 (by decide) ?_
  refine s_iconst (v := 0) dX3_payTranche_9 (by decide) ?_
  refine s_ci5G (n := 3) dX3_payTranche_10 rfl rfl (by decide) (by decide) (by decide) (by decide) (Nat.le_of_ble_eq_true rfl) (m_X0_init hW hm ha (by decide)) (fun r S1 hr => ?_) (fun x S2 hr => by obtain ⟨e, -⟩ := hr; cases e)
  obtain ⟨e, pa, hW1, hF1⟩ := hr
  cases e
  have eF : f_X3_payTranche w.n c = t_X3_payTranche w.n (c.newc w.n (clI 4 7 0 (-1) 0) (fun _ => 0)) := by unfold f_X3_payTranche; rfl
  rw [eF]
  have ht := tm_X3_payTranche (w := w.newc a pa) (S0 := S) hW1 rfl hn hF1
  rw [newc_ca0] at ht
  exact s_sub (lo' := [(0, .ref w.th)]) (List.forall_mem_cons.mpr ⟨rfl, fun _ h => absurd h List.not_mem_nil⟩) (by decide) (by decide) ht
def f_X3_swap (n : Nat) (c : CC) (i : Nat) (k : Int32) (j : Nat) : Out × Nat × CC := t_X3_swap n (c.newc n (clI (c.ci i 0) (c.ci i 1) (c.ci i 2) (c.ci i 3) (c.ci i 4)) (fun _ => 0)) i k j
set_option maxHeartbeats 4000000 in
theorem m_X3_swap {tm : Nat × Nat} {S : Sto} {w : CAd} {c : CC} {i : Nat} {k : Int32} {j : Nat} (hW : CW tm S w c) (hm : w.m = w.n) (hn : w.n < 40) (hi : i < w.n) (hj : j < w.no) : Ev tm M_X3_swap [.ref w.th, .ref (w.ca i), .int k, .ref (w.oa j)] S (PA tm w.th w.oa w.no w.nt S (f_X3_swap w.n c i k j)) := by
  have hF : FrC S S := FrC.rf
  refine ev_in ok_X3_swap (Nat.le_of_ble_eq_true rfl) ?_
  have hn40 := hW.n40
  refine s_new (n := 2) dX3_swap_0 rfl (by decide) (by decide) (fun a ha => ?_)
  have hWa := hW.fr (S1 := sal S a 1 0) (fun b hb => same5.rf.A (fun e => ck_ne hb (by rw [e]; exact ha)))
  refine s_dup dX3_swap_3 rfl ?_
  refine s_aloadn dX3_swap_4 rfl rfl ?_
  refine s_get (v := .int (c.ci i 0)) (n := 19) dX3_swap_5 rfl (hWa.cK _ (show i < w.m by omega)) (congrArg Value.int (congrFun (hWa.ci _ (show i < w.m by omega)) 0)) ?_
  refine s_aloadn dX3_swap_8 rfl rfl ?_
  refine s_get (v := .int (c.ci i 1)) (n := 21) dX3_swap_9 rfl (hWa.cK _ (show i < w.m by omega)) (congrArg Value.int (congrFun (hWa.ci _ (show i < w.m by omega)) 1)) ?_
  refine s_aloadn dX3_swap_12 rfl rfl ?_
  refine s_get (v := .int (c.ci i 2)) (n := 23) dX3_swap_13 rfl (hWa.cK _ (show i < w.m by omega)) (congrArg Value.int (congrFun (hWa.ci _ (show i < w.m by omega)) 2)) ?_
  refine s_aloadn dX3_swap_16 rfl rfl ?_
  refine s_get (v := .int (c.ci i 3)) (n := 25) dX3_swap_17 rfl (hWa.cK _ (show i < w.m by omega)) (congrArg Value.int (congrFun (hWa.ci _ (show i < w.m by omega)) 3)) ?_
  refine s_aloadn dX3_swap_20 rfl rfl ?_
  refine s_get (v := .int (c.ci i 4)) (n := 27) dX3_swap_21 rfl (hWa.cK _ (show i < w.m by omega)) (congrArg Value.int (congrFun (hWa.ci _ (show i < w.m by omega)) 4)) ?_
  refine s_ci5G (n := 3) dX3_swap_24 rfl rfl (by decide) (by decide) (by decide) (by decide) (Nat.le_of_ble_eq_true rfl) (m_X0_init hW hm ha (hW.hb i (by omega))) (fun r S1 hr => ?_) (fun x S2 hr => by obtain ⟨e, -⟩ := hr; cases e)
  obtain ⟨e, pa, hW1, hF1⟩ := hr
  cases e
  have eF : f_X3_swap w.n c i k j = t_X3_swap w.n (c.newc w.n (clI (c.ci i 0) (c.ci i 1) (c.ci i 2) (c.ci i 3) (c.ci i 4)) (fun _ => 0)) i k j := by unfold f_X3_swap; rfl
  rw [eF]
  have ht := tm_X3_swap (w := w.newc a pa) (S0 := S) (i := i) (k := k) (j := j) hW1 rfl hn (show i < w.n + 1 by omega) hj hF1
  rw [newc_ca0, newc_cai hi] at ht
  exact s_sub (lo' := [(0, .ref w.th), (1, .ref (w.ca i)), (2, .int k), (3, .ref (w.oa j))]) (List.forall_mem_cons.mpr ⟨rfl, List.forall_mem_cons.mpr ⟨rfl, List.forall_mem_cons.mpr ⟨rfl, List.forall_mem_cons.mpr ⟨rfl, fun _ h => absurd h List.not_mem_nil⟩⟩⟩⟩) (by decide) (by decide) ht
