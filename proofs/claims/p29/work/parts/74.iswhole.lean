/-! THE LAW, 16: isWhole -/
theorem l_worth {n no nt t : Nat} {c : CC} (I : IV n no nt t c) {k : Nat} (hk : k < n) :
    (¬ c.ci k 8 = 0 → ∀ r, f_X0_worth c k (c.ti 3) r = 0) ∧ (c.ci k 8 = 0 → c.ti 3 < c.ci k 7 → c.cj k 5 + c.cj k 9 ≤ f_X0_worth c k (c.ti 3) 0) ∧ f_X0_worth c k (c.ti 3) 900 ≤ f_X0_worth c k (c.ti 3) 0 := by
  have b := I.b
  obtain ⟨b0, b1, b2, b3, b4, b5, b6, b7, b8, b9, b10, b11, b12, b13, b14⟩ := b.at hk
  have hty := b.2.1
  have hg := gB_le (show ix (c.ti 3) ≤ 60 by rw [re_ix]; omega)
  have ed : (c.ci k 7 - c.ti 3).toInt = (c.ci k 7).toInt - (c.ti 3).toInt := re_isub (by omega) (by omega)
  have hk30 : ix (c.ci k 7 - c.ti 3) ≤ 30 := by rw [re_ix, ed]; omega
  have w : ∀ r : Int32, 0 ≤ r.toInt → r.toInt ≤ 1500 → 0 ≤ (f_X3_discounted (c.cj k 5) (c.ci k 6) (c.ci k 7 - c.ti 3) r).toInt ∧ (f_X3_discounted (c.cj k 5) (c.ci k 6) (c.ci k 7 - c.ti 3) r).toInt ≤ 4 * (c.cj k 5).toInt := fun r h1 h2 =>
    (re_vby (m := mc0.pti 1 (c.ti 3)) (yr := c.ti 3) (r := r) (du := c.ci k 7) b9.1 (by omega) b5.1 b5.2 h1 h2 k_s1 b6.1 (by omega) hty.1 (by omega) b6.2).2
  refine ⟨fun h r => by unfold f_X0_worth; rw [if_pos (re_open.mpr h)], fun h8 h => ?_, ?_⟩
  · unfold f_X0_worth
    rw [if_neg (fun e => (re_open.mp e) h8)]
    obtain ⟨w1, w2⟩ := w 0 (by decide) (by decide)
    rw [re_ilt] at h
    have h1 : 1 ≤ ix (c.ci k 7 - c.ti 3) := by rw [re_ix, ed]; omega
    have := v_zero (r := 0) (ys := c.ci k 7 - c.ti 3) b9.1 (show (c.cj k 5).toInt ≤ 6000000000 by omega) b5.1 b5.2 rfl _ h1 hk30
    change (c.cj k 5).toInt ≤ (f_X3_discounted (c.cj k 5) (c.ci k 6) (c.ci k 7 - c.ti 3) 0).toInt at this
    rw [re_le, re_add (by omega) (by omega), re_add (by omega) (by omega)]
    omega
  · unfold f_X0_worth
    by_cases h8 : c.ci k 8 = 0
    · rw [if_neg (fun e => (re_open.mp e) h8), if_neg (fun e => (re_open.mp e) h8)]
      obtain ⟨w1, w2⟩ := w 0 (by decide) (by decide)
      obtain ⟨w3, w4⟩ := w 900 (by decide) (by decide)
      have := v_mono (r := 0) (r' := 900) (ys := c.ci k 7 - c.ti 3) b9.1 (show (c.cj k 5).toInt ≤ 6000000000 by omega) b5.1 b5.2 (by decide) (by decide) (by decide) _ hk30
      change (f_X3_discounted (c.cj k 5) (c.ci k 6) (c.ci k 7 - c.ti 3) 900).toInt ≤ (f_X3_discounted (c.cj k 5) (c.ci k 6) (c.ci k 7 - c.ti 3) 0).toInt at this
      rw [re_le, re_add (by omega) (by omega), re_add (by omega) (by omega)]
      omega
    · rw [if_pos (re_open.mpr h8), if_pos (re_open.mpr h8)]; exact Int64.le_refl _
theorem nlt {x y : Int64} (h : x ≤ y) : ¬ y < x := by rw [re_lt]; rw [re_le] at h; omega
theorem nn0 {x : Int64} (h : 0 ≤ x.toInt) : ¬ x < 0 := by rw [re_lt, show (0 : Int64).toInt = 0 from rfl]; omega
theorem db0 {x : Int64} (h : 0 ≤ x.toInt) (c : x ≤ 0) : x = 0 := by
  rw [re_le, show (0 : Int64).toInt = 0 from rfl] at c
  rw [re_eq, show (0 : Int64).toInt = 0 from rfl]; omega
set_option maxHeartbeats 8000000 in
theorem m_L_isWhole {tm : Nat × Nat} {S : Sto} {th da wa t : Nat} {w : CAd} {c : CC} (L : LW tm th da wa t S w c) : Ev tm M_L_isWhole [.ref th, .ref da, .ref wa] S (GL tm th da wa t S) := by
  obtain ⟨⟨hC, hm, rfl⟩, hD, hW, hI⟩ := L
  have hf : F12 S S := F12.rf
  have hn := hI.b.1.1
  have hno := hI.b.1.2.1
  have hnt := hI.b.1.2.2.1
  refine ev_in ok_L_isWhole (Nat.le_of_ble_eq_true rfl) ?_
  refine s_aloadn dL_isWhole_0 rfl rfl ?_
  refine s_iconst (v := 1) dL_isWhole_1 (by decide) ?_
  refine s_q1 (n := 71) dL_isWhole_2 rfl (kv hC.th (by decide) rfl) rfl (by decide) (by decide) (by decide) (by decide) (Nat.le_of_ble_eq_true rfl) (r_X3_ofState hC) (a_os1) ?_
  refine s_lstoren dL_isWhole_5 rfl (by decide) ?_
  refine s_lconst (v := 0) dL_isWhole_6 (by decide) ?_
  refine s_lstore dL_isWhole_7 (by decide) ?_
  refine s_iconst (v := 1) dL_isWhole_9 (by decide) ?_
  refine s_istore dL_isWhole_10 (by decide) ?_
  refine s_iconst (v := 0) dL_isWhole_12 (by decide) ?_
  refine s_istore dL_isWhole_13 (by decide) ?_
  have K1 : Wp (Ev tm) tm M_L_isWhole (GL tm w.th da wa t S) 258 [(0, .ref w.th), (1, .ref da), (2, .ref wa), (3, .long (c.tj 4 + sA c w.n)), (5, .long (sO c w.n)), (7, .int 1), (8, .int (nI w.n))] [] 20 200 S := by
    obtain ⟨d1, d2⟩ := re_debtb hI.b (fun _ _ => (show ix (c.ti 3) ≤ 60 by rw [re_ix]; have := hI.b.2.1; omega)) w.n (Nat.le_refl _)
    obtain ⟨d3, d4⟩ := sO_debt hI.b w.n (Nat.le_refl _)
    refine s_iload dL_isWhole_258 rfl ?_
    refine s_ifeq (tgt := 322) dL_isWhole_260 (by decide) (fun c => absurd c (by decide)) (fun _ => ?_)
    refine s_lloadn dL_isWhole_263 rfl rfl ?_
    refine s_aloadn dL_isWhole_264 rfl rfl ?_
    refine s_iconst (v := 0) dL_isWhole_265 (by decide) ?_
    refine s_laldv (j := 0) dL_isWhole_266 hW.1 hW.2.2 rfl (by rw [hW.2.1]; decide) (by rw [hW.2.1]; decide) ?_
    refine s_lcne (tgt := 322) dL_isWhole_267 dL_isWhole_268 (by decide) (fun c => absurd rfl c) (fun c_267 => ?_)
    refine s_aloadn dL_isWhole_271 rfl rfl ?_
    refine s_iconst (v := 3) dL_isWhole_272 (by decide) ?_
    refine s_q1 (n := 71) dL_isWhole_273 rfl (kv hC.th (by decide) rfl) rfl (by decide) (by decide) (by decide) (by decide) (Nat.le_of_ble_eq_true rfl) (r_X3_ofState hC) (a_os3) ?_
    refine s_lload dL_isWhole_276 rfl ?_
    refine s_lcgt (tgt := 322) dL_isWhole_278 dL_isWhole_279 (by decide) (fun c => absurd c (nlt (by rw [re_le]; exact d3))) (fun c_278 => ?_)
    refine s_aloadn dL_isWhole_282 rfl rfl ?_
    refine s_iconst (v := 3) dL_isWhole_283 (by decide) ?_
    refine s_q1 (n := 71) dL_isWhole_284 rfl (kv hC.th (by decide) rfl) rfl (by decide) (by decide) (by decide) (by decide) (Nat.le_of_ble_eq_true rfl) (r_X3_ofState hC) (a_os3) ?_
    refine s_lconst (v := 0) dL_isWhole_287 (by decide) ?_
    refine s_lclt (tgt := 322) dL_isWhole_288 dL_isWhole_289 (by decide) (fun c => absurd c (nn0 d1)) (fun c_288 => ?_)
    refine s_aloadn dL_isWhole_292 rfl rfl ?_
    refine s_iconst (v := 2) dL_isWhole_293 (by decide) ?_
    refine s_q1 (n := 57) dL_isWhole_294 rfl (kv hC.th (by decide) rfl) rfl (by decide) (by decide) (by decide) (by decide) (Nat.le_of_ble_eq_true rfl) (r_X3_isBearable hC) ((a_bear (by decide)).trans (by rw [show ix 2 = 2 by decide])) ?_
    refine s_ifeq (tgt := 318) dL_isWhole_297 (by decide) (fun c_297 => ?_) (fun c_297 => ?_)
    · skip
      refine s_iconst (v := 1) dL_isWhole_318 (by decide) ?_
      refine s_goto (tgt := 323) dL_isWhole_319 (by decide) ?_
      exact s_reti dL_isWhole_323 rfl (nr_bool (by decide)) ⟨rfl, ⟨w, c, LW.of hC hm rfl rfl rfl rfl hD rfl rfl rfl rfl rfl hW rfl hI⟩, hf⟩
    · skip
      refine s_aloadn dL_isWhole_300 rfl rfl ?_
      refine s_iconst (v := 1) dL_isWhole_301 (by decide) ?_
      refine s_q1 (n := 57) dL_isWhole_302 rfl (kv hC.th (by decide) rfl) rfl (by decide) (by decide) (by decide) (by decide) (Nat.le_of_ble_eq_true rfl) (r_X3_isBearable hC) ((a_bear (by decide)).trans (by rw [show ix 1 = 1 by decide])) ?_
      refine s_ifne (tgt := 318) dL_isWhole_305 (by decide) (fun c_305 => ?_) (fun c_305 => ?_)
      · skip
        refine s_iconst (v := 1) dL_isWhole_318 (by decide) ?_
        refine s_goto (tgt := 323) dL_isWhole_319 (by decide) ?_
        exact s_reti dL_isWhole_323 rfl (nr_bool (by decide)) ⟨rfl, ⟨w, c, LW.of hC hm rfl rfl rfl rfl hD rfl rfl rfl rfl rfl hW rfl hI⟩, hf⟩
      · skip
        refine s_aloadn dL_isWhole_308 rfl rfl ?_
        refine s_iconst (v := 3) dL_isWhole_309 (by decide) ?_
        refine s_q1 (n := 71) dL_isWhole_310 rfl (kv hC.th (by decide) rfl) rfl (by decide) (by decide) (by decide) (by decide) (Nat.le_of_ble_eq_true rfl) (r_X3_ofState hC) (a_os3) ?_
        refine s_lconst (v := 0) dL_isWhole_313 (by decide) ?_
        refine s_lcle (tgt := 322) dL_isWhole_314 dL_isWhole_315 (by decide) (fun c => absurd c_305 (p_bear hI.b (db0 d1 c) c_297)) (fun c_314 => ?_)
        refine s_iconst (v := 1) dL_isWhole_318 (by decide) ?_
        refine s_goto (tgt := 323) dL_isWhole_319 (by decide) ?_
        exact s_reti dL_isWhole_323 rfl (nr_bool (by decide)) ⟨rfl, ⟨w, c, LW.of hC hm rfl rfl rfl rfl hD rfl rfl rfl rfl rfl hW rfl hI⟩, hf⟩
  have L1 : ∀ (r k bc bs : Nat), k + r = w.n → 40 * r + 20 ≤ bc → 240 * r + 200 ≤ bs → Wp (Ev tm) tm M_L_isWhole (GL tm w.th da wa t S) 15 [(0, .ref w.th), (1, .ref da), (2, .ref wa), (3, .long (c.tj 4 + sA c k)), (5, .long (sO c k)), (7, .int 1), (8, .int (nI k))] [] bc bs S := by
    intro r
    induction r with
    | zero =>
      intro k bc bs hkr hb1 hb2
      have hk : k = w.n := by omega
      subst hk
      refine s_iload dL_isWhole_15 rfl ?_
      refine s_aloadn dL_isWhole_17 rfl rfl ?_
      refine s_iconst (v := 0) dL_isWhole_18 (by decide) ?_
      refine s_ialdv (j := 0) dL_isWhole_19 hD.1 hD.2.2.1 rfl (by rw [hD.2.1]; decide) (by rw [hD.2.1]; decide) ?_
      refine s_icge (tgt := 258) dL_isWhole_20 (by decide) (fun c_20 => ?_) (fun c => absurd (Int32.le_refl _) c)
      exact s_sub (lo' := [(0, .ref w.th), (1, .ref da), (2, .ref wa), (3, .long (c.tj 4 + sA c w.n)), (5, .long (sO c w.n)), (7, .int 1), (8, .int (nI w.n))]) (List.forall_mem_cons.mpr ⟨rfl, List.forall_mem_cons.mpr ⟨rfl, List.forall_mem_cons.mpr ⟨rfl, List.forall_mem_cons.mpr ⟨rfl, List.forall_mem_cons.mpr ⟨rfl, List.forall_mem_cons.mpr ⟨rfl, List.forall_mem_cons.mpr ⟨rfl, fun _ h => absurd h List.not_mem_nil⟩⟩⟩⟩⟩⟩⟩) (show 20 ≤ bc by omega) (show 200 ≤ bs by omega) (K1)
    | succ r ih =>
      intro k bc bs hkr hb1 hb2
      have hkn : k < w.n := by omega
      have hik : inr (nI k) w.n := inr_lt2 (by omega) hkn
      have hix : ix (nI k) = k := re_ixnI (by omega)
      obtain ⟨l1, l2, l3⟩ := l_worth hI hkn
      have hpay := BG.paid hI.b hkn
      have bb := hI.b.at hkn
      have n5 := nn0 bb.2.2.2.2.2.2.2.2.2.1.1
      have n9 := nn0 bb.2.2.2.2.2.2.2.2.2.1.2.1
      have n10 := nn0 bb.2.2.2.2.2.2.2.2.2.2.1.1
      have x1 := (hI.2.2 k hkn).1
      have eA : c.tj 4 + sA c k + (c.cj k 10 + c.cj k 15) = c.tj 4 + sA c (k + 1) := by
        show _ = c.tj 4 + (sA c k + (c.cj k 10 + c.cj k 15))
        grind
      have eO : sO c (k + 1) = sO c k + (if c.ci k 8 = 0 then c.cj k 5 + c.cj k 9 else 0) := rfl
      by_cases h8 : c.ci k 8 = 0
      · rw [if_pos h8] at eO
        refine s_iload dL_isWhole_15 rfl ?_
        refine s_aloadn dL_isWhole_17 rfl rfl ?_
        refine s_iconst (v := 0) dL_isWhole_18 (by decide) ?_
        refine s_ialdv (j := 0) dL_isWhole_19 hD.1 hD.2.2.1 rfl (by rw [hD.2.1]; decide) (by rw [hD.2.1]; decide) ?_
        refine s_icge (tgt := 258) dL_isWhole_20 (by decide) (fun c => absurd c (by rw [re_ile, re_nI (by omega), re_nI (by omega)]; omega)) (fun c_20 => ?_)
        refine s_iload dL_isWhole_23 rfl ?_
        refine s_ifeq (tgt := 258) dL_isWhole_25 (by decide) (fun c => absurd c (by decide)) (fun _ => ?_)
        refine s_lloadn dL_isWhole_28 rfl rfl ?_
        refine s_aloadn dL_isWhole_29 rfl rfl ?_
        refine s_iload dL_isWhole_30 rfl ?_
        refine s_iconst (v := 5) dL_isWhole_32 (by decide) ?_
        refine s_q2 (n := 70) dL_isWhole_33 rfl (kv hC.th (by decide) rfl) rfl (by decide) (by decide) (show 2 ≤ bc by omega) (show 12 ≤ bs by omega) (Nat.le_of_ble_eq_true rfl) (r_X3_ofClaim hC) ((a_oc5 hik).trans (by rw [hix])) ?_
        refine s_aloadn dL_isWhole_36 rfl rfl ?_
        refine s_iload dL_isWhole_37 rfl ?_
        refine s_iconst (v := 4) dL_isWhole_39 (by decide) ?_
        refine s_q2 (n := 70) dL_isWhole_40 rfl (kv hC.th (by decide) rfl) rfl (by decide) (by decide) (show 2 ≤ bc - 2 by omega) (show 12 ≤ bs - 12 by omega) (Nat.le_of_ble_eq_true rfl) (r_X3_ofClaim hC) ((a_oc4 hik).trans (by rw [hix])) ?_
        refine s_ladd dL_isWhole_43 ?_
        refine s_ladd dL_isWhole_44 ?_
        refine s_lstoren dL_isWhole_45 rfl (by decide) ?_
        refine s_lload dL_isWhole_46 rfl ?_
        refine s_aloadn dL_isWhole_48 rfl rfl ?_
        refine s_iload dL_isWhole_49 rfl ?_
        refine s_iconst (v := 0) dL_isWhole_51 (by decide) ?_
        refine s_q2 (n := 70) dL_isWhole_52 rfl (kv hC.th (by decide) rfl) rfl (by decide) (by decide) (show 2 ≤ bc - 2 - 2 by omega) (show 12 ≤ bs - 12 - 12 by omega) (Nat.le_of_ble_eq_true rfl) (r_X3_ofClaim hC) ((a_oc0 hik).trans (by rw [hix])) ?_
        refine s_lconst (v := 0) dL_isWhole_55 (by decide) ?_
        refine s_lcne (tgt := 78) dL_isWhole_56 dL_isWhole_57 (by decide) (fun c => absurd (st_zero.mpr h8) c) (fun c_56 => ?_)
        refine s_aloadn dL_isWhole_60 rfl rfl ?_
        refine s_iload dL_isWhole_61 rfl ?_
        refine s_iconst (v := 1) dL_isWhole_63 (by decide) ?_
        refine s_q2 (n := 70) dL_isWhole_64 rfl (kv hC.th (by decide) rfl) rfl (by decide) (by decide) (show 2 ≤ bc - 2 - 2 - 2 by omega) (show 12 ≤ bs - 12 - 12 - 12 by omega) (Nat.le_of_ble_eq_true rfl) (r_X3_ofClaim hC) ((a_oc1 hik).trans (by rw [hix])) ?_
        refine s_aloadn dL_isWhole_67 rfl rfl ?_
        refine s_iload dL_isWhole_68 rfl ?_
        refine s_iconst (v := 2) dL_isWhole_70 (by decide) ?_
        refine s_q2 (n := 70) dL_isWhole_71 rfl (kv hC.th (by decide) rfl) rfl (by decide) (by decide) (show 2 ≤ bc - 2 - 2 - 2 - 2 by omega) (show 12 ≤ bs - 12 - 12 - 12 - 12 by omega) (Nat.le_of_ble_eq_true rfl) (r_X3_ofClaim hC) ((a_oc2 hik).trans (by rw [hix])) ?_
        refine s_ladd dL_isWhole_74 ?_
        refine s_goto (tgt := 79) dL_isWhole_75 (by decide) ?_
        refine s_ladd dL_isWhole_79 ?_
        refine s_lstore dL_isWhole_80 (by decide) ?_
        refine s_aloadn dL_isWhole_82 rfl rfl ?_
        refine s_iload dL_isWhole_83 rfl ?_
        refine s_iconst (v := 1) dL_isWhole_85 (by decide) ?_
        refine s_q2 (n := 70) dL_isWhole_86 rfl (kv hC.th (by decide) rfl) rfl (by decide) (by decide) (show 2 ≤ bc - 2 - 2 - 2 - 2 - 2 by omega) (show 12 ≤ bs - 12 - 12 - 12 - 12 - 12 by omega) (Nat.le_of_ble_eq_true rfl) (r_X3_ofClaim hC) ((a_oc1 hik).trans (by rw [hix])) ?_
        refine s_lconst (v := 0) dL_isWhole_89 (by decide) ?_
        refine s_lclt (tgt := 249) dL_isWhole_90 dL_isWhole_91 (by decide) (fun c => absurd c n5) (fun c_90 => ?_)
        refine s_aloadn dL_isWhole_94 rfl rfl ?_
        refine s_iload dL_isWhole_95 rfl ?_
        refine s_iconst (v := 2) dL_isWhole_97 (by decide) ?_
        refine s_q2 (n := 70) dL_isWhole_98 rfl (kv hC.th (by decide) rfl) rfl (by decide) (by decide) (show 2 ≤ bc - 2 - 2 - 2 - 2 - 2 - 2 by omega) (show 12 ≤ bs - 12 - 12 - 12 - 12 - 12 - 12 by omega) (Nat.le_of_ble_eq_true rfl) (r_X3_ofClaim hC) ((a_oc2 hik).trans (by rw [hix])) ?_
        refine s_lconst (v := 0) dL_isWhole_101 (by decide) ?_
        refine s_lclt (tgt := 249) dL_isWhole_102 dL_isWhole_103 (by decide) (fun c => absurd c n9) (fun c_102 => ?_)
        refine s_aloadn dL_isWhole_106 rfl rfl ?_
        refine s_iload dL_isWhole_107 rfl ?_
        refine s_iconst (v := 5) dL_isWhole_109 (by decide) ?_
        refine s_q2 (n := 70) dL_isWhole_110 rfl (kv hC.th (by decide) rfl) rfl (by decide) (by decide) (show 2 ≤ bc - 2 - 2 - 2 - 2 - 2 - 2 - 2 by omega) (show 12 ≤ bs - 12 - 12 - 12 - 12 - 12 - 12 - 12 by omega) (Nat.le_of_ble_eq_true rfl) (r_X3_ofClaim hC) ((a_oc5 hik).trans (by rw [hix])) ?_
        refine s_lconst (v := 0) dL_isWhole_113 (by decide) ?_
        refine s_lclt (tgt := 249) dL_isWhole_114 dL_isWhole_115 (by decide) (fun c => absurd c n10) (fun c_114 => ?_)
        refine s_aloadn dL_isWhole_118 rfl rfl ?_
        refine s_iload dL_isWhole_119 rfl ?_
        refine s_q1 (n := 56) dL_isWhole_121 rfl (kv hC.th (by decide) rfl) rfl (by decide) (by decide) (show 1 ≤ bc - 2 - 2 - 2 - 2 - 2 - 2 - 2 - 2 by omega) (show 6 ≤ bs - 12 - 12 - 12 - 12 - 12 - 12 - 12 - 12 by omega) (Nat.le_of_ble_eq_true rfl) (r_X3_paidAnew hC) ((a_paid hik).trans (by rw [hix])) ?_
        refine s_aloadn dL_isWhole_124 rfl rfl ?_
        refine s_iload dL_isWhole_125 rfl ?_
        refine s_iconst (v := 4) dL_isWhole_127 (by decide) ?_
        refine s_q2 (n := 70) dL_isWhole_128 rfl (kv hC.th (by decide) rfl) rfl (by decide) (by decide) (show 2 ≤ bc - 2 - 2 - 2 - 2 - 2 - 2 - 2 - 2 - 1 by omega) (show 12 ≤ bs - 12 - 12 - 12 - 12 - 12 - 12 - 12 - 12 - 6 by omega) (Nat.le_of_ble_eq_true rfl) (r_X3_ofClaim hC) ((a_oc4 hik).trans (by rw [hix])) ?_
        refine s_lcne (tgt := 249) dL_isWhole_131 dL_isWhole_132 (by decide) (fun c => absurd hpay c) (fun c_131 => ?_)
        refine s_aloadn dL_isWhole_135 rfl rfl ?_
        refine s_iload dL_isWhole_136 rfl ?_
        refine s_iconst (v := 0) dL_isWhole_138 (by decide) ?_
        refine s_q2 (n := 70) dL_isWhole_139 rfl (kv hC.th (by decide) rfl) rfl (by decide) (by decide) (show 2 ≤ bc - 2 - 2 - 2 - 2 - 2 - 2 - 2 - 2 - 1 - 2 by omega) (show 12 ≤ bs - 12 - 12 - 12 - 12 - 12 - 12 - 12 - 12 - 6 - 12 by omega) (Nat.le_of_ble_eq_true rfl) (r_X3_ofClaim hC) ((a_oc0 hik).trans (by rw [hix])) ?_
        refine s_lconst (v := 0) dL_isWhole_142 (by decide) ?_
        refine s_lceq (tgt := 171) dL_isWhole_143 dL_isWhole_144 (by decide) (fun c_143 => ?_) (fun c => absurd (st_zero.mpr h8) c)
        refine s_aloadn dL_isWhole_171 rfl rfl ?_
        refine s_iload dL_isWhole_172 rfl ?_
        refine s_iconst (v := 0) dL_isWhole_174 (by decide) ?_
        refine s_q2 (n := 70) dL_isWhole_175 rfl (kv hC.th (by decide) rfl) rfl (by decide) (by decide) (show 2 ≤ bc - 2 - 2 - 2 - 2 - 2 - 2 - 2 - 2 - 1 - 2 - 2 by omega) (show 12 ≤ bs - 12 - 12 - 12 - 12 - 12 - 12 - 12 - 12 - 6 - 12 - 12 by omega) (Nat.le_of_ble_eq_true rfl) (r_X3_ofClaim hC) ((a_oc0 hik).trans (by rw [hix])) ?_
        refine s_lconst (v := 0) dL_isWhole_178 (by decide) ?_
        refine s_lcne (tgt := 225) dL_isWhole_179 dL_isWhole_180 (by decide) (fun c => absurd (st_zero.mpr h8) c) (fun c_179 => ?_)
        refine s_aloadn dL_isWhole_183 rfl rfl ?_
        refine s_iload dL_isWhole_184 rfl ?_
        refine s_iconst (v := 0) dL_isWhole_186 (by decide) ?_
        refine s_q2 (n := 55) dL_isWhole_187 rfl (kv hC.th (by decide) rfl) rfl (by decide) (by decide) (show 2 ≤ bc - 2 - 2 - 2 - 2 - 2 - 2 - 2 - 2 - 1 - 2 - 2 - 2 by omega) (show 12 ≤ bs - 12 - 12 - 12 - 12 - 12 - 12 - 12 - 12 - 6 - 12 - 12 - 12 by omega) (Nat.le_of_ble_eq_true rfl) (r_X3_value hC) ((a_val hik (by decide)).trans (by rw [hix])) ?_
        refine s_aloadn dL_isWhole_190 rfl rfl ?_
        refine s_iload dL_isWhole_191 rfl ?_
        refine s_iconst (v := 1) dL_isWhole_193 (by decide) ?_
        refine s_q2 (n := 70) dL_isWhole_194 rfl (kv hC.th (by decide) rfl) rfl (by decide) (by decide) (show 2 ≤ bc - 2 - 2 - 2 - 2 - 2 - 2 - 2 - 2 - 1 - 2 - 2 - 2 - 2 by omega) (show 12 ≤ bs - 12 - 12 - 12 - 12 - 12 - 12 - 12 - 12 - 6 - 12 - 12 - 12 - 12 by omega) (Nat.le_of_ble_eq_true rfl) (r_X3_ofClaim hC) ((a_oc1 hik).trans (by rw [hix])) ?_
        refine s_aloadn dL_isWhole_197 rfl rfl ?_
        refine s_iload dL_isWhole_198 rfl ?_
        refine s_iconst (v := 2) dL_isWhole_200 (by decide) ?_
        refine s_q2 (n := 70) dL_isWhole_201 rfl (kv hC.th (by decide) rfl) rfl (by decide) (by decide) (show 2 ≤ bc - 2 - 2 - 2 - 2 - 2 - 2 - 2 - 2 - 1 - 2 - 2 - 2 - 2 - 2 by omega) (show 12 ≤ bs - 12 - 12 - 12 - 12 - 12 - 12 - 12 - 12 - 6 - 12 - 12 - 12 - 12 - 12 by omega) (Nat.le_of_ble_eq_true rfl) (r_X3_ofClaim hC) ((a_oc2 hik).trans (by rw [hix])) ?_
        refine s_ladd dL_isWhole_204 ?_
        refine s_lcge (tgt := 225) dL_isWhole_205 dL_isWhole_206 (by decide) (fun c_205 => ?_) (fun c_205 => ?_)
        · skip
          refine s_aloadn dL_isWhole_225 rfl rfl ?_
          refine s_iload dL_isWhole_226 rfl ?_
          refine s_iconst (v := 0) dL_isWhole_228 (by decide) ?_
          refine s_q2 (n := 55) dL_isWhole_229 rfl (kv hC.th (by decide) rfl) rfl (by decide) (by decide) (show 2 ≤ bc - 2 - 2 - 2 - 2 - 2 - 2 - 2 - 2 - 1 - 2 - 2 - 2 - 2 - 2 - 2 by omega) (show 12 ≤ bs - 12 - 12 - 12 - 12 - 12 - 12 - 12 - 12 - 6 - 12 - 12 - 12 - 12 - 12 - 12 by omega) (Nat.le_of_ble_eq_true rfl) (r_X3_value hC) ((a_val hik (by decide)).trans (by rw [hix])) ?_
          refine s_aloadn dL_isWhole_232 rfl rfl ?_
          refine s_iload dL_isWhole_233 rfl ?_
          refine s_sipush (v := 900) dL_isWhole_235 (by decide) ?_
          refine s_q2 (n := 55) dL_isWhole_238 rfl (kv hC.th (by decide) rfl) rfl (by decide) (by decide) (show 2 ≤ bc - 2 - 2 - 2 - 2 - 2 - 2 - 2 - 2 - 1 - 2 - 2 - 2 - 2 - 2 - 2 - 2 by omega) (show 12 ≤ bs - 12 - 12 - 12 - 12 - 12 - 12 - 12 - 12 - 6 - 12 - 12 - 12 - 12 - 12 - 12 - 12 by omega) (Nat.le_of_ble_eq_true rfl) (r_X3_value hC) ((a_val hik (by decide)).trans (by rw [hix])) ?_
          refine s_lclt (tgt := 249) dL_isWhole_241 dL_isWhole_242 (by decide) (fun c => absurd c (nlt l3)) (fun c_241 => ?_)
          refine s_iconst (v := 1) dL_isWhole_245 (by decide) ?_
          refine s_goto (tgt := 250) dL_isWhole_246 (by decide) ?_
          refine s_istore dL_isWhole_250 (by decide) ?_
          refine s_iinc (v := nI (k + 1)) dL_isWhole_252 rfl (re_cnt (show k < 600 by omega)).2 (by decide) ?_
          refine s_goto (tgt := 15) dL_isWhole_255 (by decide) ?_
          exact s_sub (lo' := [(0, .ref w.th), (1, .ref da), (2, .ref wa), (3, .long (c.tj 4 + sA c (k + 1))), (5, .long (sO c (k + 1))), (7, .int 1), (8, .int (nI (k + 1)))]) (List.forall_mem_cons.mpr ⟨rfl, List.forall_mem_cons.mpr ⟨rfl, List.forall_mem_cons.mpr ⟨rfl, List.forall_mem_cons.mpr ⟨congrArg (fun z => some (Value.long z)) (eA), List.forall_mem_cons.mpr ⟨congrArg (fun z => some (Value.long z)) (eO.symm), List.forall_mem_cons.mpr ⟨rfl, List.forall_mem_cons.mpr ⟨rfl, fun _ h => absurd h List.not_mem_nil⟩⟩⟩⟩⟩⟩⟩) (show 40 * r + 20 ≤ bc - 2 - 2 - 2 - 2 - 2 - 2 - 2 - 2 - 1 - 2 - 2 - 2 - 2 - 2 - 2 - 2 - 2 by omega) (show 240 * r + 200 ≤ bs - 12 - 12 - 12 - 12 - 12 - 12 - 12 - 12 - 6 - 12 - 12 - 12 - 12 - 12 - 12 - 12 - 12 by omega) (ih (k + 1) _ _ (by omega) (Nat.le_refl _) (Nat.le_refl _))
        · skip
          refine s_aloadn dL_isWhole_209 rfl rfl ?_
          refine s_iload dL_isWhole_210 rfl ?_
          refine s_iconst (v := 3) dL_isWhole_212 (by decide) ?_
          refine s_q2 (n := 70) dL_isWhole_213 rfl (kv hC.th (by decide) rfl) rfl (by decide) (by decide) (show 2 ≤ bc - 2 - 2 - 2 - 2 - 2 - 2 - 2 - 2 - 1 - 2 - 2 - 2 - 2 - 2 - 2 by omega) (show 12 ≤ bs - 12 - 12 - 12 - 12 - 12 - 12 - 12 - 12 - 6 - 12 - 12 - 12 - 12 - 12 - 12 by omega) (Nat.le_of_ble_eq_true rfl) (r_X3_ofClaim hC) ((a_oc3 hik).trans (by rw [hix])) ?_
          refine s_aloadn dL_isWhole_216 rfl rfl ?_
          refine s_iconst (v := 0) dL_isWhole_217 (by decide) ?_
          refine s_q1 (n := 71) dL_isWhole_218 rfl (kv hC.th (by decide) rfl) rfl (by decide) (by decide) (show 1 ≤ bc - 2 - 2 - 2 - 2 - 2 - 2 - 2 - 2 - 1 - 2 - 2 - 2 - 2 - 2 - 2 - 2 by omega) (show 6 ≤ bs - 12 - 12 - 12 - 12 - 12 - 12 - 12 - 12 - 6 - 12 - 12 - 12 - 12 - 12 - 12 - 12 by omega) (Nat.le_of_ble_eq_true rfl) (r_X3_ofState hC) (a_os0) ?_
          refine s_lcgt (tgt := 249) dL_isWhole_221 dL_isWhole_222 (by decide) (fun c => absurd (l2 h8 (by rw [re_ilt]; rw [re_lt, re_w, re_w] at c; exact c)) c_205) (fun c_221 => ?_)
          refine s_aloadn dL_isWhole_225 rfl rfl ?_
          refine s_iload dL_isWhole_226 rfl ?_
          refine s_iconst (v := 0) dL_isWhole_228 (by decide) ?_
          refine s_q2 (n := 55) dL_isWhole_229 rfl (kv hC.th (by decide) rfl) rfl (by decide) (by decide) (show 2 ≤ bc - 2 - 2 - 2 - 2 - 2 - 2 - 2 - 2 - 1 - 2 - 2 - 2 - 2 - 2 - 2 - 2 - 1 by omega) (show 12 ≤ bs - 12 - 12 - 12 - 12 - 12 - 12 - 12 - 12 - 6 - 12 - 12 - 12 - 12 - 12 - 12 - 12 - 6 by omega) (Nat.le_of_ble_eq_true rfl) (r_X3_value hC) ((a_val hik (by decide)).trans (by rw [hix])) ?_
          refine s_aloadn dL_isWhole_232 rfl rfl ?_
          refine s_iload dL_isWhole_233 rfl ?_
          refine s_sipush (v := 900) dL_isWhole_235 (by decide) ?_
          refine s_q2 (n := 55) dL_isWhole_238 rfl (kv hC.th (by decide) rfl) rfl (by decide) (by decide) (show 2 ≤ bc - 2 - 2 - 2 - 2 - 2 - 2 - 2 - 2 - 1 - 2 - 2 - 2 - 2 - 2 - 2 - 2 - 1 - 2 by omega) (show 12 ≤ bs - 12 - 12 - 12 - 12 - 12 - 12 - 12 - 12 - 6 - 12 - 12 - 12 - 12 - 12 - 12 - 12 - 6 - 12 by omega) (Nat.le_of_ble_eq_true rfl) (r_X3_value hC) ((a_val hik (by decide)).trans (by rw [hix])) ?_
          refine s_lclt (tgt := 249) dL_isWhole_241 dL_isWhole_242 (by decide) (fun c => absurd c (nlt l3)) (fun c_241 => ?_)
          refine s_iconst (v := 1) dL_isWhole_245 (by decide) ?_
          refine s_goto (tgt := 250) dL_isWhole_246 (by decide) ?_
          refine s_istore dL_isWhole_250 (by decide) ?_
          refine s_iinc (v := nI (k + 1)) dL_isWhole_252 rfl (re_cnt (show k < 600 by omega)).2 (by decide) ?_
          refine s_goto (tgt := 15) dL_isWhole_255 (by decide) ?_
          exact s_sub (lo' := [(0, .ref w.th), (1, .ref da), (2, .ref wa), (3, .long (c.tj 4 + sA c (k + 1))), (5, .long (sO c (k + 1))), (7, .int 1), (8, .int (nI (k + 1)))]) (List.forall_mem_cons.mpr ⟨rfl, List.forall_mem_cons.mpr ⟨rfl, List.forall_mem_cons.mpr ⟨rfl, List.forall_mem_cons.mpr ⟨congrArg (fun z => some (Value.long z)) (eA), List.forall_mem_cons.mpr ⟨congrArg (fun z => some (Value.long z)) (eO.symm), List.forall_mem_cons.mpr ⟨rfl, List.forall_mem_cons.mpr ⟨rfl, fun _ h => absurd h List.not_mem_nil⟩⟩⟩⟩⟩⟩⟩) (show 40 * r + 20 ≤ bc - 2 - 2 - 2 - 2 - 2 - 2 - 2 - 2 - 1 - 2 - 2 - 2 - 2 - 2 - 2 - 2 - 1 - 2 - 2 by omega) (show 240 * r + 200 ≤ bs - 12 - 12 - 12 - 12 - 12 - 12 - 12 - 12 - 6 - 12 - 12 - 12 - 12 - 12 - 12 - 12 - 6 - 12 - 12 by omega) (ih (k + 1) _ _ (by omega) (Nat.le_refl _) (Nat.le_refl _))
      · rw [if_neg h8] at eO
        refine s_iload dL_isWhole_15 rfl ?_
        refine s_aloadn dL_isWhole_17 rfl rfl ?_
        refine s_iconst (v := 0) dL_isWhole_18 (by decide) ?_
        refine s_ialdv (j := 0) dL_isWhole_19 hD.1 hD.2.2.1 rfl (by rw [hD.2.1]; decide) (by rw [hD.2.1]; decide) ?_
        refine s_icge (tgt := 258) dL_isWhole_20 (by decide) (fun c => absurd c (by rw [re_ile, re_nI (by omega), re_nI (by omega)]; omega)) (fun c_20 => ?_)
        refine s_iload dL_isWhole_23 rfl ?_
        refine s_ifeq (tgt := 258) dL_isWhole_25 (by decide) (fun c => absurd c (by decide)) (fun _ => ?_)
        refine s_lloadn dL_isWhole_28 rfl rfl ?_
        refine s_aloadn dL_isWhole_29 rfl rfl ?_
        refine s_iload dL_isWhole_30 rfl ?_
        refine s_iconst (v := 5) dL_isWhole_32 (by decide) ?_
        refine s_q2 (n := 70) dL_isWhole_33 rfl (kv hC.th (by decide) rfl) rfl (by decide) (by decide) (show 2 ≤ bc by omega) (show 12 ≤ bs by omega) (Nat.le_of_ble_eq_true rfl) (r_X3_ofClaim hC) ((a_oc5 hik).trans (by rw [hix])) ?_
        refine s_aloadn dL_isWhole_36 rfl rfl ?_
        refine s_iload dL_isWhole_37 rfl ?_
        refine s_iconst (v := 4) dL_isWhole_39 (by decide) ?_
        refine s_q2 (n := 70) dL_isWhole_40 rfl (kv hC.th (by decide) rfl) rfl (by decide) (by decide) (show 2 ≤ bc - 2 by omega) (show 12 ≤ bs - 12 by omega) (Nat.le_of_ble_eq_true rfl) (r_X3_ofClaim hC) ((a_oc4 hik).trans (by rw [hix])) ?_
        refine s_ladd dL_isWhole_43 ?_
        refine s_ladd dL_isWhole_44 ?_
        refine s_lstoren dL_isWhole_45 rfl (by decide) ?_
        refine s_lload dL_isWhole_46 rfl ?_
        refine s_aloadn dL_isWhole_48 rfl rfl ?_
        refine s_iload dL_isWhole_49 rfl ?_
        refine s_iconst (v := 0) dL_isWhole_51 (by decide) ?_
        refine s_q2 (n := 70) dL_isWhole_52 rfl (kv hC.th (by decide) rfl) rfl (by decide) (by decide) (show 2 ≤ bc - 2 - 2 by omega) (show 12 ≤ bs - 12 - 12 by omega) (Nat.le_of_ble_eq_true rfl) (r_X3_ofClaim hC) ((a_oc0 hik).trans (by rw [hix])) ?_
        refine s_lconst (v := 0) dL_isWhole_55 (by decide) ?_
        refine s_lcne (tgt := 78) dL_isWhole_56 dL_isWhole_57 (by decide) (fun c_56 => ?_) (fun c => absurd (st_zero.mp c) h8)
        refine s_lconst (v := 0) dL_isWhole_78 (by decide) ?_
        refine s_ladd dL_isWhole_79 ?_
        refine s_lstore dL_isWhole_80 (by decide) ?_
        refine s_aloadn dL_isWhole_82 rfl rfl ?_
        refine s_iload dL_isWhole_83 rfl ?_
        refine s_iconst (v := 1) dL_isWhole_85 (by decide) ?_
        refine s_q2 (n := 70) dL_isWhole_86 rfl (kv hC.th (by decide) rfl) rfl (by decide) (by decide) (show 2 ≤ bc - 2 - 2 - 2 by omega) (show 12 ≤ bs - 12 - 12 - 12 by omega) (Nat.le_of_ble_eq_true rfl) (r_X3_ofClaim hC) ((a_oc1 hik).trans (by rw [hix])) ?_
        refine s_lconst (v := 0) dL_isWhole_89 (by decide) ?_
        refine s_lclt (tgt := 249) dL_isWhole_90 dL_isWhole_91 (by decide) (fun c => absurd c n5) (fun c_90 => ?_)
        refine s_aloadn dL_isWhole_94 rfl rfl ?_
        refine s_iload dL_isWhole_95 rfl ?_
        refine s_iconst (v := 2) dL_isWhole_97 (by decide) ?_
        refine s_q2 (n := 70) dL_isWhole_98 rfl (kv hC.th (by decide) rfl) rfl (by decide) (by decide) (show 2 ≤ bc - 2 - 2 - 2 - 2 by omega) (show 12 ≤ bs - 12 - 12 - 12 - 12 by omega) (Nat.le_of_ble_eq_true rfl) (r_X3_ofClaim hC) ((a_oc2 hik).trans (by rw [hix])) ?_
        refine s_lconst (v := 0) dL_isWhole_101 (by decide) ?_
        refine s_lclt (tgt := 249) dL_isWhole_102 dL_isWhole_103 (by decide) (fun c => absurd c n9) (fun c_102 => ?_)
        refine s_aloadn dL_isWhole_106 rfl rfl ?_
        refine s_iload dL_isWhole_107 rfl ?_
        refine s_iconst (v := 5) dL_isWhole_109 (by decide) ?_
        refine s_q2 (n := 70) dL_isWhole_110 rfl (kv hC.th (by decide) rfl) rfl (by decide) (by decide) (show 2 ≤ bc - 2 - 2 - 2 - 2 - 2 by omega) (show 12 ≤ bs - 12 - 12 - 12 - 12 - 12 by omega) (Nat.le_of_ble_eq_true rfl) (r_X3_ofClaim hC) ((a_oc5 hik).trans (by rw [hix])) ?_
        refine s_lconst (v := 0) dL_isWhole_113 (by decide) ?_
        refine s_lclt (tgt := 249) dL_isWhole_114 dL_isWhole_115 (by decide) (fun c => absurd c n10) (fun c_114 => ?_)
        refine s_aloadn dL_isWhole_118 rfl rfl ?_
        refine s_iload dL_isWhole_119 rfl ?_
        refine s_q1 (n := 56) dL_isWhole_121 rfl (kv hC.th (by decide) rfl) rfl (by decide) (by decide) (show 1 ≤ bc - 2 - 2 - 2 - 2 - 2 - 2 by omega) (show 6 ≤ bs - 12 - 12 - 12 - 12 - 12 - 12 by omega) (Nat.le_of_ble_eq_true rfl) (r_X3_paidAnew hC) ((a_paid hik).trans (by rw [hix])) ?_
        refine s_aloadn dL_isWhole_124 rfl rfl ?_
        refine s_iload dL_isWhole_125 rfl ?_
        refine s_iconst (v := 4) dL_isWhole_127 (by decide) ?_
        refine s_q2 (n := 70) dL_isWhole_128 rfl (kv hC.th (by decide) rfl) rfl (by decide) (by decide) (show 2 ≤ bc - 2 - 2 - 2 - 2 - 2 - 2 - 1 by omega) (show 12 ≤ bs - 12 - 12 - 12 - 12 - 12 - 12 - 6 by omega) (Nat.le_of_ble_eq_true rfl) (r_X3_ofClaim hC) ((a_oc4 hik).trans (by rw [hix])) ?_
        refine s_lcne (tgt := 249) dL_isWhole_131 dL_isWhole_132 (by decide) (fun c => absurd hpay c) (fun c_131 => ?_)
        refine s_aloadn dL_isWhole_135 rfl rfl ?_
        refine s_iload dL_isWhole_136 rfl ?_
        refine s_iconst (v := 0) dL_isWhole_138 (by decide) ?_
        refine s_q2 (n := 70) dL_isWhole_139 rfl (kv hC.th (by decide) rfl) rfl (by decide) (by decide) (show 2 ≤ bc - 2 - 2 - 2 - 2 - 2 - 2 - 1 - 2 by omega) (show 12 ≤ bs - 12 - 12 - 12 - 12 - 12 - 12 - 6 - 12 by omega) (Nat.le_of_ble_eq_true rfl) (r_X3_ofClaim hC) ((a_oc0 hik).trans (by rw [hix])) ?_
        refine s_lconst (v := 0) dL_isWhole_142 (by decide) ?_
        refine s_lceq (tgt := 171) dL_isWhole_143 dL_isWhole_144 (by decide) (fun c => absurd (st_zero.mp c) h8) (fun c_143 => ?_)
        refine s_aloadn dL_isWhole_147 rfl rfl ?_
        refine s_iload dL_isWhole_148 rfl ?_
        refine s_iconst (v := 0) dL_isWhole_150 (by decide) ?_
        refine s_q2 (n := 55) dL_isWhole_151 rfl (kv hC.th (by decide) rfl) rfl (by decide) (by decide) (show 2 ≤ bc - 2 - 2 - 2 - 2 - 2 - 2 - 1 - 2 - 2 by omega) (show 12 ≤ bs - 12 - 12 - 12 - 12 - 12 - 12 - 6 - 12 - 12 by omega) (Nat.le_of_ble_eq_true rfl) (r_X3_value hC) ((a_val hik (by decide)).trans (by rw [hix])) ?_
        refine s_lconst (v := 0) dL_isWhole_154 (by decide) ?_
        refine s_lcne (tgt := 249) dL_isWhole_155 dL_isWhole_156 (by decide) (fun c => absurd (l1 h8 0) c) (fun c_155 => ?_)
        refine s_aloadn dL_isWhole_159 rfl rfl ?_
        refine s_iload dL_isWhole_160 rfl ?_
        refine s_iconst (v := 5) dL_isWhole_162 (by decide) ?_
        refine s_q2 (n := 70) dL_isWhole_163 rfl (kv hC.th (by decide) rfl) rfl (by decide) (by decide) (show 2 ≤ bc - 2 - 2 - 2 - 2 - 2 - 2 - 1 - 2 - 2 - 2 by omega) (show 12 ≤ bs - 12 - 12 - 12 - 12 - 12 - 12 - 6 - 12 - 12 - 12 by omega) (Nat.le_of_ble_eq_true rfl) (r_X3_ofClaim hC) ((a_oc5 hik).trans (by rw [hix])) ?_
        refine s_lconst (v := 0) dL_isWhole_166 (by decide) ?_
        refine s_lcne (tgt := 249) dL_isWhole_167 dL_isWhole_168 (by decide) (fun c => absurd (x1 h8) c) (fun c_167 => ?_)
        refine s_aloadn dL_isWhole_171 rfl rfl ?_
        refine s_iload dL_isWhole_172 rfl ?_
        refine s_iconst (v := 0) dL_isWhole_174 (by decide) ?_
        refine s_q2 (n := 70) dL_isWhole_175 rfl (kv hC.th (by decide) rfl) rfl (by decide) (by decide) (show 2 ≤ bc - 2 - 2 - 2 - 2 - 2 - 2 - 1 - 2 - 2 - 2 - 2 by omega) (show 12 ≤ bs - 12 - 12 - 12 - 12 - 12 - 12 - 6 - 12 - 12 - 12 - 12 by omega) (Nat.le_of_ble_eq_true rfl) (r_X3_ofClaim hC) ((a_oc0 hik).trans (by rw [hix])) ?_
        refine s_lconst (v := 0) dL_isWhole_178 (by decide) ?_
        refine s_lcne (tgt := 225) dL_isWhole_179 dL_isWhole_180 (by decide) (fun c_179 => ?_) (fun c => absurd (st_zero.mp c) h8)
        refine s_aloadn dL_isWhole_225 rfl rfl ?_
        refine s_iload dL_isWhole_226 rfl ?_
        refine s_iconst (v := 0) dL_isWhole_228 (by decide) ?_
        refine s_q2 (n := 55) dL_isWhole_229 rfl (kv hC.th (by decide) rfl) rfl (by decide) (by decide) (show 2 ≤ bc - 2 - 2 - 2 - 2 - 2 - 2 - 1 - 2 - 2 - 2 - 2 - 2 by omega) (show 12 ≤ bs - 12 - 12 - 12 - 12 - 12 - 12 - 6 - 12 - 12 - 12 - 12 - 12 by omega) (Nat.le_of_ble_eq_true rfl) (r_X3_value hC) ((a_val hik (by decide)).trans (by rw [hix])) ?_
        refine s_aloadn dL_isWhole_232 rfl rfl ?_
        refine s_iload dL_isWhole_233 rfl ?_
        refine s_sipush (v := 900) dL_isWhole_235 (by decide) ?_
        refine s_q2 (n := 55) dL_isWhole_238 rfl (kv hC.th (by decide) rfl) rfl (by decide) (by decide) (show 2 ≤ bc - 2 - 2 - 2 - 2 - 2 - 2 - 1 - 2 - 2 - 2 - 2 - 2 - 2 by omega) (show 12 ≤ bs - 12 - 12 - 12 - 12 - 12 - 12 - 6 - 12 - 12 - 12 - 12 - 12 - 12 by omega) (Nat.le_of_ble_eq_true rfl) (r_X3_value hC) ((a_val hik (by decide)).trans (by rw [hix])) ?_
        refine s_lclt (tgt := 249) dL_isWhole_241 dL_isWhole_242 (by decide) (fun c => absurd c (nlt l3)) (fun c_241 => ?_)
        refine s_iconst (v := 1) dL_isWhole_245 (by decide) ?_
        refine s_goto (tgt := 250) dL_isWhole_246 (by decide) ?_
        refine s_istore dL_isWhole_250 (by decide) ?_
        refine s_iinc (v := nI (k + 1)) dL_isWhole_252 rfl (re_cnt (show k < 600 by omega)).2 (by decide) ?_
        refine s_goto (tgt := 15) dL_isWhole_255 (by decide) ?_
        exact s_sub (lo' := [(0, .ref w.th), (1, .ref da), (2, .ref wa), (3, .long (c.tj 4 + sA c (k + 1))), (5, .long (sO c (k + 1))), (7, .int 1), (8, .int (nI (k + 1)))]) (List.forall_mem_cons.mpr ⟨rfl, List.forall_mem_cons.mpr ⟨rfl, List.forall_mem_cons.mpr ⟨rfl, List.forall_mem_cons.mpr ⟨congrArg (fun z => some (Value.long z)) (eA), List.forall_mem_cons.mpr ⟨congrArg (fun z => some (Value.long z)) (eO.symm), List.forall_mem_cons.mpr ⟨rfl, List.forall_mem_cons.mpr ⟨rfl, fun _ h => absurd h List.not_mem_nil⟩⟩⟩⟩⟩⟩⟩) (show 40 * r + 20 ≤ bc - 2 - 2 - 2 - 2 - 2 - 2 - 1 - 2 - 2 - 2 - 2 - 2 - 2 - 2 by omega) (show 240 * r + 200 ≤ bs - 12 - 12 - 12 - 12 - 12 - 12 - 6 - 12 - 12 - 12 - 12 - 12 - 12 - 12 by omega) (ih (k + 1) _ _ (by omega) (Nat.le_refl _) (Nat.le_refl _))
  exact s_sub (lo' := [(0, .ref w.th), (1, .ref da), (2, .ref wa), (3, .long (c.tj 4 + sA c 0)), (5, .long (sO c 0)), (7, .int 1), (8, .int (nI 0))]) (List.forall_mem_cons.mpr ⟨rfl, List.forall_mem_cons.mpr ⟨rfl, List.forall_mem_cons.mpr ⟨rfl, List.forall_mem_cons.mpr ⟨congrArg (fun z => some (Value.long z)) (show c.tj 4 = c.tj 4 + 0 by grind), List.forall_mem_cons.mpr ⟨rfl, List.forall_mem_cons.mpr ⟨rfl, List.forall_mem_cons.mpr ⟨rfl, fun _ h => absurd h List.not_mem_nil⟩⟩⟩⟩⟩⟩⟩) (show 40 * w.n + 20 ≤ 1650 - 1 by omega) (show 240 * w.n + 200 ≤ 10000 - 6 by omega) (L1 w.n 0 _ _ (by omega) (Nat.le_refl _) (Nat.le_refl _))
