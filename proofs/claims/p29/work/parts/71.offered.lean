/-! THE LAW, 13: isOffered -/
set_option maxHeartbeats 8000000 in
theorem m_L_isOffered {tm : Nat × Nat} {S : Sto} {th da wa t : Nat} {w : CAd} {c : CC} {a b : Int32} (L : LW tm th da wa t S w c) (ha : 0 ≤ a.toInt) (hb : 0 ≤ b.toInt) : Ev tm M_L_isOffered [.ref th, .ref da, .int a, .int b] S (GL tm th da wa t S) := by
  obtain ⟨⟨hC, hm, rfl⟩, hD, hW, hI⟩ := L
  have hf : F12 S S := F12.rf
  have hn := hI.b.1.1
  have hno := hI.b.1.2.1
  have hnt := hI.b.1.2.2.1
  have k1 : rng (a - a / 100 * 100) 0 99 := by
    obtain ⟨x1, x2⟩ := rem_rng ha (b := 100) (B := 100) rfl (by decide)
    exact rng_of x1 (by rw [show (99 : Int32).toInt = 99 from rfl]; omega)
  have k2 : rng (b - b / 1001 * 1001) 0 1000 := by
    obtain ⟨x1, x2⟩ := rem_rng hb (b := 1001) (B := 1001) rfl (by decide)
    exact rng_of x1 (by rw [show (1000 : Int32).toInt = 1000 from rfl]; omega)
  have k3 : rng (1 + ((b / 7) - (b / 7) / 30 * 30)) 1 30 := by
    obtain ⟨x1, x2⟩ := rem_rng (div_nn hb (b := 7) (B := 7) rfl (by decide)) (b := 30) (B := 30) rfl (by decide)
    have := one_add x1 x2 (by decide)
    exact rng_of (by rw [this, one32]; omega) (by rw [this, show (30 : Int32).toInt = 30 from rfl]; omega)
  refine ev_in ok_L_isOffered (Nat.le_of_ble_eq_true rfl) ?_
  refine s_aloadn dL_isOffered_0 rfl rfl ?_
  refine s_iloadn dL_isOffered_1 rfl rfl ?_
  refine s_iloadn dL_isOffered_2 rfl rfl ?_
  refine s_iconst (v := 0) dL_isOffered_3 (by decide) ?_
  rcases p_offer (a := a - a / 100 * 100) (q := b - b / 1001 * 1001) (y := 1 + ((b / 7) - (b / 7) / 30 * 30)) hI k1 k2 k3 with ⟨e12, eF⟩ | ⟨h12, c2, eF, hI2, t2, j2, a2, v2⟩
  · skip
    refine s_cw4G (n := 1) dL_isOffered_4 rfl rfl (by decide) (by decide) (by decide) (by decide) (Nat.le_of_ble_eq_true rfl) (m_L_acts0 hC hm (R := .inl (some (.int (-2)))) (Or.inr ⟨by rw [eF], rfl⟩)) (fun r S1 hr1 => ?_) (fun x S2 hr => by have h := hr.1; cases h)
    obtain ⟨er, hp1⟩ := hr1
    cases er
    have g := PB.gp hp1
    rw [eF] at g
    dsimp only at g
    obtain ⟨w1, gt1, gn1, go1, gg1, hm1, hC1, fr1⟩ := g
    have hD1 := hD.fr fr1
    have hW1 := hW.fr fr1
    have hf1 := hf.fr fr1
    rw [← gt1]
    refine s_istore dL_isOffered_7 (by decide) ?_
    refine s_aloadn dL_isOffered_9 rfl rfl ?_
    refine s_iconst (v := 1) dL_isOffered_10 (by decide) ?_
    refine s_dup2 dL_isOffered_11 rfl rfl ?_
    refine s_ialdv (j := 1) dL_isOffered_12 hD1.1 hD1.2.2.2.1 rfl (by rw [hD1.2.1]; decide) (by rw [hD1.2.1]; decide) ?_
    refine s_iload dL_isOffered_13 rfl ?_
    refine s_bipush (v := (-2)) dL_isOffered_15 (by decide) ?_
    refine s_icne (tgt := 24) dL_isOffered_17 (by decide) (fun c => absurd rfl c) (fun _ => ?_)
    refine s_iconst (v := 0) dL_isOffered_20 (by decide) ?_
    refine s_goto (tgt := 25) dL_isOffered_21 (by decide) ?_
    refine s_iadd dL_isOffered_25 ?_
    refine s_iast' (j := 1) dL_isOffered_26 hD1.1 rfl (by rw [hD1.2.1]; decide) (by rw [hD1.2.1]; decide) ?_
    have hC2 := hC1.I6 (k := 1) (y := (nI w.no) + 0) hD1.1
    have hW2 := hW1.I (da := da) (k := 1) (y := (nI w.no) + 0)
    have hf2 := hf1.I (k := 1) (v := (nI w.no) + 0) hD1.1
    have hD2 := hD1.p1 (y := (nI w.no) + 0)
    refine s_iload dL_isOffered_27 rfl ?_
    refine s_bipush (v := (-2)) dL_isOffered_29 (by decide) ?_
    refine s_icne (tgt := 50) dL_isOffered_31 (by decide) (fun c => absurd rfl c) (fun _ => ?_)
    refine s_aloadn dL_isOffered_34 rfl rfl ?_
    refine s_iconst (v := 1) dL_isOffered_35 (by decide) ?_
    refine s_ialdv (j := 1) dL_isOffered_36 hD2.1 hD2.2.2.2.1 rfl (by rw [hD2.2.1]; decide) (by rw [hD2.2.1]; decide) ?_
    refine s_bipush (v := 12) dL_isOffered_37 (by decide) ?_
    refine s_icne (tgt := 46) dL_isOffered_39 (by decide) (fun c => absurd (by rw [e12]; rfl) c) (fun c_39 => ?_)
    refine s_iconst (v := 1) dL_isOffered_42 (by decide) ?_
    refine s_goto (tgt := 75) dL_isOffered_43 (by decide) ?_
    exact s_reti dL_isOffered_75 rfl (nr_bool (by decide)) ⟨rfl, ⟨w1, c, LW.of hC2 hm1 rfl gn1 go1 gg1 hD2 rfl (Int32.add_zero _) rfl rfl rfl hW2 rfl hI⟩, hf2⟩
  · skip
    refine s_cw4G (n := 1) dL_isOffered_4 rfl rfl (by decide) (by decide) (by decide) (by decide) (Nat.le_of_ble_eq_true rfl) (m_L_acts0 hC hm (R := .inl (some (.int (nI w.no)))) (Or.inl ⟨_, by rw [eF], rfl⟩)) (fun r S3 hr3 => ?_) (fun x S2 hr => by have h := hr.1; cases h)
    obtain ⟨er, hp3⟩ := hr3
    cases er
    have g := PB.gp hp3
    rw [eF] at g
    dsimp only at g
    obtain ⟨w3, gt3, gn3, go3, gg3, hm3, hC3, fr3⟩ := g
    have hD3 := hD.fr fr3
    have hW3 := hW.fr fr3
    have hf3 := hf.fr fr3
    rw [← gt3]
    refine s_istore dL_isOffered_7 (by decide) ?_
    refine s_aloadn dL_isOffered_9 rfl rfl ?_
    refine s_iconst (v := 1) dL_isOffered_10 (by decide) ?_
    refine s_dup2 dL_isOffered_11 rfl rfl ?_
    refine s_ialdv (j := 1) dL_isOffered_12 hD3.1 hD3.2.2.2.1 rfl (by rw [hD3.2.1]; decide) (by rw [hD3.2.1]; decide) ?_
    refine s_iload dL_isOffered_13 rfl ?_
    refine s_bipush (v := (-2)) dL_isOffered_15 (by decide) ?_
    refine s_icne (tgt := 24) dL_isOffered_17 (by decide) (fun c_17 => ?_) (fun c => absurd c (nI_ne (by omega) (by decide)))
    refine s_iconst (v := 1) dL_isOffered_24 (by decide) ?_
    refine s_iadd dL_isOffered_25 ?_
    refine s_iast' (j := 1) dL_isOffered_26 hD3.1 rfl (by rw [hD3.2.1]; decide) (by rw [hD3.2.1]; decide) ?_
    have hC4 := hC3.I6 (k := 1) (y := (nI w.no) + 1) hD3.1
    have hW4 := hW3.I (da := da) (k := 1) (y := (nI w.no) + 1)
    have hf4 := hf3.I (k := 1) (v := (nI w.no) + 1) hD3.1
    have hD4 := hD3.p1 (y := (nI w.no) + 1)
    refine s_iload dL_isOffered_27 rfl ?_
    refine s_bipush (v := (-2)) dL_isOffered_29 (by decide) ?_
    refine s_icne (tgt := 50) dL_isOffered_31 (by decide) (fun c_31 => ?_) (fun c => absurd c (nI_ne (by omega) (by decide)))
    refine s_iload dL_isOffered_50 rfl ?_
    refine s_aloadn dL_isOffered_52 rfl rfl ?_
    refine s_iconst (v := 1) dL_isOffered_53 (by decide) ?_
    refine s_ialdv (j := 1) dL_isOffered_54 hD4.1 hD4.2.2.2.1 rfl (by rw [hD4.2.1]; decide) (by rw [hD4.2.1]; decide) ?_
    refine s_iconst (v := 1) dL_isOffered_55 (by decide) ?_
    refine s_isub dL_isOffered_56 ?_
    refine s_icne (tgt := 74) dL_isOffered_57 (by decide) (fun c => absurd nI_m c) (fun c_57 => ?_)
    refine s_aloadn dL_isOffered_60 rfl rfl ?_
    refine s_iload dL_isOffered_61 rfl ?_
    refine s_iconst (v := (-1)) dL_isOffered_63 (by decide) ?_
    have ho : inr (nI w.no) w3.no := by rw [go3]; exact inr_lt2 (by omega) (Nat.lt_succ_self _)
    refine s_q2 (n := 49) dL_isOffered_64 rfl (kv hC4.th (by decide) rfl) rfl (by decide) (by decide) (by decide) (by decide) (Nat.le_of_ble_eq_true rfl) (r_X3_passes hC4) (a_pas ho) ?_
    refine s_ifne (tgt := 74) dL_isOffered_67 (by decide) (fun c => absurd (by rw [re_ixnI (by omega), gn3]; exact v2) c) (fun c_67 => ?_)
    refine s_iconst (v := 1) dL_isOffered_70 (by decide) ?_
    refine s_goto (tgt := 75) dL_isOffered_71 (by decide) ?_
    exact s_reti dL_isOffered_75 rfl (nr_bool (by decide)) ⟨rfl, ⟨w3, c2, LW.of hC4 hm3 rfl gn3 go3 gg3 hD4 rfl (re_cnt (show w.no < 600 by omega)).2 rfl (by rw [t2]) (by rw [t2]) hW4 (by rw [j2, a2]) hI2⟩, hf4⟩
