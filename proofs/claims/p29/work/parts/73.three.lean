/-! THE LAW, 15: isAccepted, isSeized, isReviewed -/
set_option maxHeartbeats 8000000 in
theorem m_L_isAccepted {tm : Nat × Nat} {S : Sto} {th da wa t : Nat} {w : CAd} {c : CC} {k o : Int32} (L : LW tm th da wa t S w c) (hk : inr k w.n) (ho : inr o w.no) : Ev tm M_L_isAccepted [.ref th, .ref da, .int k, .int o] S (GL tm th da wa t S) := by
  obtain ⟨⟨hC, hm, rfl⟩, hD, hW, hI⟩ := L
  have hf : F12 S S := F12.rf
  have hn := hI.b.1.1
  have hno := hI.b.1.2.1
  have hnt := hI.b.1.2.2.1
  refine ev_in ok_L_isAccepted (Nat.le_of_ble_eq_true rfl) ?_
  refine s_aloadn dL_isAccepted_0 rfl rfl ?_
  refine s_iloadn dL_isAccepted_1 rfl rfl ?_
  refine s_iloadn dL_isAccepted_2 rfl rfl ?_
  refine s_sipush (v := 800) dL_isAccepted_3 (by decide) ?_
  refine s_q3 (n := 54) dL_isAccepted_6 rfl (kv hC.th (by decide) rfl) rfl (by decide) (by decide) (by decide) (by decide) (Nat.le_of_ble_eq_true rfl) (r_X3_offered hC) (a_off hk ho (by decide)) ?_
  refine s_lstore dL_isAccepted_9 (by decide) ?_
  refine s_aloadn dL_isAccepted_11 rfl rfl ?_
  refine s_iloadn dL_isAccepted_12 rfl rfl ?_
  refine s_iconst (v := 5) dL_isAccepted_13 (by decide) ?_
  refine s_q2 (n := 70) dL_isAccepted_14 rfl (kv hC.th (by decide) rfl) rfl (by decide) (by decide) (by decide) (by decide) (Nat.le_of_ble_eq_true rfl) (r_X3_ofClaim hC) (a_oc5 hk) ?_
  refine s_lstore dL_isAccepted_17 (by decide) ?_
  refine s_aloadn dL_isAccepted_19 rfl rfl ?_
  refine s_iloadn dL_isAccepted_20 rfl rfl ?_
  refine s_iloadn dL_isAccepted_21 rfl rfl ?_
  refine s_iconst (v := 1) dL_isAccepted_22 (by decide) ?_
  rcases p_accept hI hk ho with eF | ⟨h8, hn4, c2, eF, hI2, t2, j2, a2, ⟨s1, s2⟩, ⟨u1, u2, u3, u4⟩, ⟨v1, v2, v3, v4⟩⟩
  · skip
    refine s_cw4G (n := 1) dL_isAccepted_23 rfl rfl (by decide) (by decide) (by decide) (by decide) (Nat.le_of_ble_eq_true rfl) (m_L_acts1 hC hm (R := .inl (some (.int (-2)))) (Or.inr ⟨by rw [eF], rfl⟩)) (fun r S5 hr5 => ?_) (fun x S2 hr => by have h := hr.1; cases h)
    obtain ⟨er, hp5⟩ := hr5
    cases er
    have g := PA.gp hp5
    rw [eF] at g
    dsimp only at g
    obtain ⟨w5, gt5, gn5, go5, gg5, hm5, hC5, fr5⟩ := g
    have hD5 := hD.fr fr5
    have hW5 := hW.fr fr5
    have hf5 := hf.fr fr5
    rw [← gt5]
    have hk2 : inr k w5.n := by rw [gn5]; exact hk
    have ho2 : inr o w5.no := by rw [go5]; exact ho
    refine s_istore dL_isAccepted_26 (by decide) ?_
    refine s_iload dL_isAccepted_28 rfl ?_
    refine s_bipush (v := (-2)) dL_isAccepted_30 (by decide) ?_
    refine s_icne (tgt := 68) dL_isAccepted_32 (by decide) (fun c => absurd rfl c) (fun _ => ?_)
    refine s_aloadn dL_isAccepted_35 rfl rfl ?_
    refine s_iloadn dL_isAccepted_36 rfl rfl ?_
    refine s_iconst (v := 5) dL_isAccepted_37 (by decide) ?_
    refine s_q2 (n := 70) dL_isAccepted_38 rfl (kv hC5.th (by decide) rfl) rfl (by decide) (by decide) (by decide) (by decide) (Nat.le_of_ble_eq_true rfl) (r_X3_ofClaim hC5) (a_oc5 hk2) ?_
    refine s_lload dL_isAccepted_41 rfl ?_
    refine s_lcne (tgt := 66) dL_isAccepted_43 dL_isAccepted_44 (by decide) (fun c => absurd rfl c) (fun c_43 => ?_)
    refine s_aloadn dL_isAccepted_47 rfl rfl ?_
    refine s_iloadn dL_isAccepted_48 rfl rfl ?_
    refine s_iloadn dL_isAccepted_49 rfl rfl ?_
    refine s_sipush (v := 800) dL_isAccepted_50 (by decide) ?_
    refine s_q3 (n := 54) dL_isAccepted_53 rfl (kv hC5.th (by decide) rfl) rfl (by decide) (by decide) (by decide) (by decide) (Nat.le_of_ble_eq_true rfl) (r_X3_offered hC5) (a_off hk2 ho2 (by decide)) ?_
    refine s_lload dL_isAccepted_56 rfl ?_
    refine s_lcne (tgt := 66) dL_isAccepted_58 dL_isAccepted_59 (by decide) (fun c => absurd rfl c) (fun c_58 => ?_)
    refine s_iconst (v := 1) dL_isAccepted_62 (by decide) ?_
    refine s_goto (tgt := 67) dL_isAccepted_63 (by decide) ?_
    exact s_reti dL_isAccepted_67 rfl (nr_bool (by decide)) ⟨rfl, ⟨w5, c, LW.of hC5 hm5 rfl gn5 go5 gg5 hD5 rfl rfl rfl rfl rfl hW5 rfl hI⟩, hf5⟩
  · skip
    refine s_cw4G (n := 1) dL_isAccepted_23 rfl rfl (by decide) (by decide) (by decide) (by decide) (Nat.le_of_ble_eq_true rfl) (m_L_acts1 hC hm (R := .inl (some (.int (nI w.n)))) (Or.inl ⟨_, by rw [eF], rfl⟩)) (fun r S6 hr6 => ?_) (fun x S2 hr => by have h := hr.1; cases h)
    obtain ⟨er, hp6⟩ := hr6
    cases er
    have g := PA.gp hp6
    rw [eF] at g
    dsimp only at g
    obtain ⟨w6, gt6, gn6, go6, gg6, hm6, hC6, fr6⟩ := g
    have hD6 := hD.fr fr6
    have hW6 := hW.fr fr6
    have hf6 := hf.fr fr6
    rw [← gt6]
    have hk2 : inr k w6.n := by rw [gn6]; exact ⟨hk.1, Int32.lt_iff_toInt_lt.mpr (by have := re_ilt.mp hk.2; rw [re_nI (by omega)] at this ⊢; omega)⟩
    have him : inr (nI w.n) w6.n := by rw [gn6]; exact inr_lt2 (by omega) (Nat.lt_succ_self _)
    have hix : ix (nI w.n) = w.n := re_ixnI (by omega)
    have eV : f_X0_worth c2 w.n (c2.ti 3) 800 = (if c.ci (ix k) 8 = 0 then f_X3_discounted (i_X1_principalFor c (ix o) (ix k)) (c.oi (ix o) 1) (c.oi (ix o) 2) 800 else 0) := by
      unfold f_X0_worth
      have e : c.ti 3 + c.oi (ix o) 2 - c.ti 3 = c.oi (ix o) 2 := by grind
      rw [if_pos h8, if_neg (fun e => (re_open.mp e) u1), v1, v2, v3, v4, t2, e, Int64.add_zero]
    have eZ : f_X0_worth c2 (ix k) (c2.ti 3) 800 = 0 := by
      unfold f_X0_worth
      rw [if_pos (re_open.mpr (by rw [s1]; decide))]
    refine s_istore dL_isAccepted_26 (by decide) ?_
    refine s_iload dL_isAccepted_28 rfl ?_
    refine s_bipush (v := (-2)) dL_isAccepted_30 (by decide) ?_
    refine s_icne (tgt := 68) dL_isAccepted_32 (by decide) (fun c_32 => ?_) (fun c => absurd c (nI_ne (by omega) (by decide)))
    refine s_aloadn dL_isAccepted_68 rfl rfl ?_
    refine s_iconst (v := 0) dL_isAccepted_69 (by decide) ?_
    refine s_dup2 dL_isAccepted_70 rfl rfl ?_
    refine s_ialdv (j := 0) dL_isAccepted_71 hD6.1 hD6.2.2.1 rfl (by rw [hD6.2.1]; decide) (by rw [hD6.2.1]; decide) ?_
    refine s_iconst (v := 1) dL_isAccepted_72 (by decide) ?_
    refine s_iadd dL_isAccepted_73 ?_
    refine s_iast' (j := 0) dL_isAccepted_74 hD6.1 rfl (by rw [hD6.2.1]; decide) (by rw [hD6.2.1]; decide) ?_
    have hC7 := hC6.I6 (k := 0) (y := (nI w.n) + 1) hD6.1
    have hW7 := hW6.I (da := da) (k := 0) (y := (nI w.n) + 1)
    have hf7 := hf6.I (k := 0) (v := (nI w.n) + 1) hD6.1
    have hD7 := hD6.p0 (y := (nI w.n) + 1)
    refine s_iload dL_isAccepted_75 rfl ?_
    refine s_aloadn dL_isAccepted_77 rfl rfl ?_
    refine s_iconst (v := 0) dL_isAccepted_78 (by decide) ?_
    refine s_ialdv (j := 0) dL_isAccepted_79 hD7.1 hD7.2.2.1 rfl (by rw [hD7.2.1]; decide) (by rw [hD7.2.1]; decide) ?_
    refine s_iconst (v := 1) dL_isAccepted_80 (by decide) ?_
    refine s_isub dL_isAccepted_81 ?_
    refine s_icne (tgt := 180) dL_isAccepted_82 (by decide) (fun c => absurd nI_m c) (fun c_82 => ?_)
    refine s_aloadn dL_isAccepted_85 rfl rfl ?_
    refine s_iload dL_isAccepted_86 rfl ?_
    refine s_sipush (v := 800) dL_isAccepted_88 (by decide) ?_
    refine s_q2 (n := 55) dL_isAccepted_91 rfl (kv hC7.th (by decide) rfl) rfl (by decide) (by decide) (by decide) (by decide) (Nat.le_of_ble_eq_true rfl) (r_X3_value hC7) ((a_val him (by decide)).trans (by rw [hix])) ?_
    refine s_lload dL_isAccepted_94 rfl ?_
    refine s_lcne (tgt := 180) dL_isAccepted_96 dL_isAccepted_97 (by decide) (fun c => absurd eV c) (fun c_96 => ?_)
    refine s_aloadn dL_isAccepted_100 rfl rfl ?_
    refine s_iloadn dL_isAccepted_101 rfl rfl ?_
    refine s_sipush (v := 800) dL_isAccepted_102 (by decide) ?_
    refine s_q2 (n := 55) dL_isAccepted_105 rfl (kv hC7.th (by decide) rfl) rfl (by decide) (by decide) (by decide) (by decide) (Nat.le_of_ble_eq_true rfl) (r_X3_value hC7) (a_val hk2 (by decide)) ?_
    refine s_lconst (v := 0) dL_isAccepted_108 (by decide) ?_
    refine s_lcne (tgt := 180) dL_isAccepted_109 dL_isAccepted_110 (by decide) (fun c => absurd eZ c) (fun c_109 => ?_)
    refine s_aloadn dL_isAccepted_113 rfl rfl ?_
    refine s_iloadn dL_isAccepted_114 rfl rfl ?_
    refine s_iconst (v := 0) dL_isAccepted_115 (by decide) ?_
    refine s_q2 (n := 70) dL_isAccepted_116 rfl (kv hC7.th (by decide) rfl) rfl (by decide) (by decide) (by decide) (by decide) (Nat.le_of_ble_eq_true rfl) (r_X3_ofClaim hC7) (a_oc0 hk2) ?_
    refine s_ldc2 (v := 2) dL_isAccepted_119 cslL_158 ?_
    refine s_lcne (tgt := 180) dL_isAccepted_122 dL_isAccepted_123 (by decide) (fun c => absurd (by rw [s1]; rfl) c) (fun c_122 => ?_)
    refine s_aloadn dL_isAccepted_126 rfl rfl ?_
    refine s_iload dL_isAccepted_127 rfl ?_
    refine s_bipush (v := 7) dL_isAccepted_129 (by decide) ?_
    refine s_q2 (n := 70) dL_isAccepted_131 rfl (kv hC7.th (by decide) rfl) rfl (by decide) (by decide) (by decide) (by decide) (Nat.le_of_ble_eq_true rfl) (r_X3_ofClaim hC7) ((a_oc7 him).trans (by rw [hix])) ?_
    refine s_iloadn dL_isAccepted_134 rfl rfl ?_
    refine s_i2l dL_isAccepted_135 ?_
    refine s_lcne (tgt := 180) dL_isAccepted_136 dL_isAccepted_137 (by decide) (fun c => absurd (by rw [u2]) c) (fun c_136 => ?_)
    refine s_aloadn dL_isAccepted_140 rfl rfl ?_
    refine s_iload dL_isAccepted_141 rfl ?_
    refine s_iconst (v := 5) dL_isAccepted_143 (by decide) ?_
    refine s_q2 (n := 70) dL_isAccepted_144 rfl (kv hC7.th (by decide) rfl) rfl (by decide) (by decide) (by decide) (by decide) (Nat.le_of_ble_eq_true rfl) (r_X3_ofClaim hC7) ((a_oc5 him).trans (by rw [hix])) ?_
    refine s_lload dL_isAccepted_147 rfl ?_
    refine s_lcne (tgt := 180) dL_isAccepted_149 dL_isAccepted_150 (by decide) (fun c => absurd u3 c) (fun c_149 => ?_)
    refine s_aloadn dL_isAccepted_153 rfl rfl ?_
    refine s_iloadn dL_isAccepted_154 rfl rfl ?_
    refine s_iconst (v := 5) dL_isAccepted_155 (by decide) ?_
    refine s_q2 (n := 70) dL_isAccepted_156 rfl (kv hC7.th (by decide) rfl) rfl (by decide) (by decide) (by decide) (by decide) (Nat.le_of_ble_eq_true rfl) (r_X3_ofClaim hC7) (a_oc5 hk2) ?_
    refine s_lconst (v := 0) dL_isAccepted_159 (by decide) ?_
    refine s_lcne (tgt := 180) dL_isAccepted_160 dL_isAccepted_161 (by decide) (fun c => absurd s2 c) (fun c_160 => ?_)
    refine s_aloadn dL_isAccepted_164 rfl rfl ?_
    refine s_iload dL_isAccepted_165 rfl ?_
    refine s_iconst (v := 4) dL_isAccepted_167 (by decide) ?_
    refine s_q2 (n := 70) dL_isAccepted_168 rfl (kv hC7.th (by decide) rfl) rfl (by decide) (by decide) (by decide) (by decide) (Nat.le_of_ble_eq_true rfl) (r_X3_ofClaim hC7) ((a_oc4 him).trans (by rw [hix])) ?_
    refine s_lconst (v := 0) dL_isAccepted_171 (by decide) ?_
    refine s_lcne (tgt := 180) dL_isAccepted_172 dL_isAccepted_173 (by decide) (fun c => absurd u4 c) (fun c_172 => ?_)
    refine s_iconst (v := 1) dL_isAccepted_176 (by decide) ?_
    refine s_goto (tgt := 181) dL_isAccepted_177 (by decide) ?_
    exact s_reti dL_isAccepted_181 rfl (nr_bool (by decide)) ⟨rfl, ⟨w6, c2, LW.of hC7 hm6 rfl gn6 go6 gg6 hD7 (re_cnt (show w.n < 600 by omega)).2 rfl rfl (by rw [t2]) (by rw [t2]) hW7 (by rw [j2, a2]) hI2⟩, hf7⟩
set_option maxHeartbeats 8000000 in
theorem m_L_isSeized {tm : Nat × Nat} {S : Sto} {th da wa t : Nat} {w : CAd} {c : CC} {k g b : Int32} (L : LW tm th da wa t S w c) (hk : inr k w.n) (hg : inr g w.nt) : Ev tm M_L_isSeized [.ref th, .ref wa, .int k, .int g, .int b] S (GL tm th da wa t S) := by
  obtain ⟨⟨hC, hm, rfl⟩, hD, hW, hI⟩ := L
  have hf : F12 S S := F12.rf
  have hn := hI.b.1.1
  have hno := hI.b.1.2.1
  have hnt := hI.b.1.2.2.1
  refine ev_in ok_L_isSeized (Nat.le_of_ble_eq_true rfl) ?_
  refine s_aloadn dL_isSeized_0 rfl rfl ?_
  refine s_iloadn dL_isSeized_1 rfl rfl ?_
  refine s_iconst (v := 1) dL_isSeized_2 (by decide) ?_
  refine s_q2 (n := 70) dL_isSeized_3 rfl (kv hC.th (by decide) rfl) rfl (by decide) (by decide) (by decide) (by decide) (Nat.le_of_ble_eq_true rfl) (r_X3_ofClaim hC) (a_oc1 hk) ?_
  refine s_aloadn dL_isSeized_6 rfl rfl ?_
  refine s_iloadn dL_isSeized_7 rfl rfl ?_
  refine s_iconst (v := 2) dL_isSeized_8 (by decide) ?_
  refine s_q2 (n := 70) dL_isSeized_9 rfl (kv hC.th (by decide) rfl) rfl (by decide) (by decide) (by decide) (by decide) (Nat.le_of_ble_eq_true rfl) (r_X3_ofClaim hC) (a_oc2 hk) ?_
  refine s_ladd dL_isSeized_12 ?_
  refine s_lstore dL_isSeized_13 (by decide) ?_
  refine s_aloadn dL_isSeized_15 rfl rfl ?_
  refine s_iconst (v := 1) dL_isSeized_16 (by decide) ?_
  refine s_q1 (n := 71) dL_isSeized_17 rfl (kv hC.th (by decide) rfl) rfl (by decide) (by decide) (by decide) (by decide) (Nat.le_of_ble_eq_true rfl) (r_X3_ofState hC) (a_os1) ?_
  refine s_lstore dL_isSeized_20 (by decide) ?_
  refine s_aloadn dL_isSeized_22 rfl rfl ?_
  refine s_iloadn dL_isSeized_23 rfl rfl ?_
  refine s_iconst (v := 5) dL_isSeized_24 (by decide) ?_
  refine s_q2 (n := 70) dL_isSeized_25 rfl (kv hC.th (by decide) rfl) rfl (by decide) (by decide) (by decide) (by decide) (Nat.le_of_ble_eq_true rfl) (r_X3_ofClaim hC) (a_oc5 hk) ?_
  refine s_lstore dL_isSeized_28 (by decide) ?_
  refine s_aloadn dL_isSeized_30 rfl rfl ?_
  refine s_iloadn dL_isSeized_31 rfl rfl ?_
  refine s_iloadn dL_isSeized_32 rfl rfl ?_
  rcases p_seize hI hk hg with eF | ⟨v, c2, eF, nv, hI2, t2, eF2, q1, q2, q3, q4⟩
  · skip
    refine s_cw3G (n := 4) dL_isSeized_33 rfl rfl (by decide) (by decide) (by decide) (by decide) (Nat.le_of_ble_eq_true rfl) (m_L_seizes hC (R := .inl (some (.long (-2)))) (Or.inr ⟨by rw [eF], rfl⟩)) (fun r S8 hr8 => ?_) (fun x S2 hr => by have h := hr.1; cases h)
    obtain ⟨er, hp8⟩ := hr8
    cases er
    have g := PO.gp hp8 hm
    rw [eF] at g
    dsimp only at g
    obtain ⟨w8, gt8, gn8, go8, gg8, hm8, hC8, fr8⟩ := g
    have hD8 := hD.fr fr8
    have hW8 := hW.fr fr8
    have hf8 := hf.fr fr8
    rw [← gt8]
    have hk2 : inr k w8.n := by rw [gn8]; exact hk
    refine s_lstore dL_isSeized_36 (by decide) ?_
    refine s_lload dL_isSeized_38 rfl ?_
    refine s_ldc2 (v := (-2)) dL_isSeized_40 cslL_24 ?_
    refine s_lcne (tgt := 83) dL_isSeized_43 dL_isSeized_44 (by decide) (fun c => absurd rfl c) (fun _ => ?_)
    refine s_aloadn dL_isSeized_47 rfl rfl ?_
    refine s_iconst (v := 1) dL_isSeized_48 (by decide) ?_
    refine s_q1 (n := 71) dL_isSeized_49 rfl (kv hC8.th (by decide) rfl) rfl (by decide) (by decide) (by decide) (by decide) (Nat.le_of_ble_eq_true rfl) (r_X3_ofState hC8) (a_os1) ?_
    refine s_lload dL_isSeized_52 rfl ?_
    refine s_lcne (tgt := 81) dL_isSeized_54 dL_isSeized_55 (by decide) (fun c => absurd rfl c) (fun c_54 => ?_)
    refine s_aloadn dL_isSeized_58 rfl rfl ?_
    refine s_iloadn dL_isSeized_59 rfl rfl ?_
    refine s_iconst (v := 1) dL_isSeized_60 (by decide) ?_
    refine s_q2 (n := 70) dL_isSeized_61 rfl (kv hC8.th (by decide) rfl) rfl (by decide) (by decide) (by decide) (by decide) (Nat.le_of_ble_eq_true rfl) (r_X3_ofClaim hC8) (a_oc1 hk2) ?_
    refine s_aloadn dL_isSeized_64 rfl rfl ?_
    refine s_iloadn dL_isSeized_65 rfl rfl ?_
    refine s_iconst (v := 2) dL_isSeized_66 (by decide) ?_
    refine s_q2 (n := 70) dL_isSeized_67 rfl (kv hC8.th (by decide) rfl) rfl (by decide) (by decide) (by decide) (by decide) (Nat.le_of_ble_eq_true rfl) (r_X3_ofClaim hC8) (a_oc2 hk2) ?_
    refine s_ladd dL_isSeized_70 ?_
    refine s_lload dL_isSeized_71 rfl ?_
    refine s_lcne (tgt := 81) dL_isSeized_73 dL_isSeized_74 (by decide) (fun c => absurd rfl c) (fun c_73 => ?_)
    refine s_iconst (v := 1) dL_isSeized_77 (by decide) ?_
    refine s_goto (tgt := 82) dL_isSeized_78 (by decide) ?_
    exact s_reti dL_isSeized_82 rfl (nr_bool (by decide)) ⟨rfl, ⟨w8, c, LW.of hC8 hm8 rfl gn8 go8 gg8 hD8 rfl rfl rfl rfl rfl hW8 rfl hI⟩, hf8⟩
  · skip
    refine s_cw3G (n := 4) dL_isSeized_33 rfl rfl (by decide) (by decide) (by decide) (by decide) (Nat.le_of_ble_eq_true rfl) (m_L_seizes hC (R := .inl (some (.long v))) (Or.inl ⟨_, by rw [eF], rfl⟩)) (fun r S9 hr9 => ?_) (fun x S2 hr => by have h := hr.1; cases h)
    obtain ⟨er, hp9⟩ := hr9
    cases er
    have g := PO.gp hp9 hm
    rw [eF] at g
    dsimp only at g
    obtain ⟨w9, gt9, gn9, go9, gg9, hm9, hC9, fr9⟩ := g
    have hD9 := hD.fr fr9
    have hW9 := hW.fr fr9
    have hf9 := hf.fr fr9
    rw [← gt9]
    have hk2 : inr k w9.n := by rw [gn9]; exact hk
    have eF3 : f_X3_seize w9.n w9.nt c2 k g = (.inr 2, c2) := by rw [gn9, gg9]; exact eF2
    refine s_lstore dL_isSeized_36 (by decide) ?_
    refine s_lload dL_isSeized_38 rfl ?_
    refine s_ldc2 (v := (-2)) dL_isSeized_40 cslL_24 ?_
    refine s_lcne (tgt := 83) dL_isSeized_43 dL_isSeized_44 (by decide) (fun c_43 => ?_) (fun c => absurd c nv)
    refine s_aloadn dL_isSeized_83 rfl rfl ?_
    refine s_iloadn dL_isSeized_84 rfl rfl ?_
    refine s_iconst (v := 1) dL_isSeized_85 (by decide) ?_
    refine s_q2 (n := 70) dL_isSeized_86 rfl (kv hC9.th (by decide) rfl) rfl (by decide) (by decide) (by decide) (by decide) (Nat.le_of_ble_eq_true rfl) (r_X3_ofClaim hC9) (a_oc1 hk2) ?_
    refine s_aloadn dL_isSeized_89 rfl rfl ?_
    refine s_iloadn dL_isSeized_90 rfl rfl ?_
    refine s_iconst (v := 2) dL_isSeized_91 (by decide) ?_
    refine s_q2 (n := 70) dL_isSeized_92 rfl (kv hC9.th (by decide) rfl) rfl (by decide) (by decide) (by decide) (by decide) (Nat.le_of_ble_eq_true rfl) (r_X3_ofClaim hC9) (a_oc2 hk2) ?_
    refine s_ladd dL_isSeized_95 ?_
    refine s_lstore dL_isSeized_96 (by decide) ?_
    refine s_lload dL_isSeized_98 rfl ?_
    refine s_lconst (v := 0) dL_isSeized_100 (by decide) ?_
    refine s_lcne (tgt := 110) dL_isSeized_101 dL_isSeized_102 (by decide) (fun hq => ?_) (fun hq => ?_)
    · skip
      refine s_lconst (v := 0) dL_isSeized_110 (by decide) ?_
      refine s_lstore dL_isSeized_111 (by decide) ?_
      refine s_aloadn dL_isSeized_113 rfl rfl ?_
      refine s_iconst (v := 0) dL_isSeized_114 (by decide) ?_
      refine s_dup2 dL_isSeized_115 rfl rfl ?_
      refine s_laldv (j := 0) dL_isSeized_116 hW9.1 hW9.2.2 rfl (by rw [hW9.2.1]; decide) (by rw [hW9.2.1]; decide) ?_
      refine s_lload dL_isSeized_117 rfl ?_
      refine s_aloadn dL_isSeized_119 rfl rfl ?_
      refine s_iconst (v := 1) dL_isSeized_120 (by decide) ?_
      refine s_q1 (n := 71) dL_isSeized_121 rfl (kv hC9.th (by decide) rfl) rfl (by decide) (by decide) (by decide) (by decide) (Nat.le_of_ble_eq_true rfl) (r_X3_ofState hC9) (a_os1) ?_
      refine s_ladd dL_isSeized_124 ?_
      refine s_lload dL_isSeized_125 rfl ?_
      refine s_lsub dL_isSeized_127 ?_
      refine s_lload dL_isSeized_128 rfl ?_
      refine s_lsub dL_isSeized_130 ?_
      refine s_ladd dL_isSeized_131 ?_
      refine s_last' (j := 0) dL_isSeized_132 (Or.inr (Or.inr hW9.1)) rfl (by rw [hW9.2.1]; decide) (by rw [hW9.2.1]; decide) ?_
      have hC10 := hC9.J11 (k := 0) (y := (c.tj 4 + sA c w.n) + (((v + (c2.tj 4)) - (c.tj 4)) - 0)) hW9.1
      have hD10 := hD9.J (wa := wa) (x := (c.tj 4 + sA c w.n) + (((v + (c2.tj 4)) - (c.tj 4)) - 0))
      have hf10 := hf9.J (k := 0) (v := (c.tj 4 + sA c w.n) + (((v + (c2.tj 4)) - (c.tj 4)) - 0)) hW9.1
      have hW10 := hW9.p (x := (c.tj 4 + sA c w.n) + (((v + (c2.tj 4)) - (c.tj 4)) - 0))
      refine s_lload dL_isSeized_133 rfl ?_
      refine s_lload dL_isSeized_135 rfl ?_
      refine s_lload dL_isSeized_137 rfl ?_
      refine s_lsub dL_isSeized_139 ?_
      refine s_lcne (tgt := 210) dL_isSeized_140 dL_isSeized_141 (by decide) (fun c => absurd q1 c) (fun c_140 => ?_)
      refine s_lload dL_isSeized_144 rfl ?_
      refine s_lconst (v := 0) dL_isSeized_146 (by decide) ?_
      refine s_lcne (tgt := 155) dL_isSeized_147 dL_isSeized_148 (by decide) (fun c_147 => ?_) (fun c => absurd c hq)
      refine s_iconst (v := 0) dL_isSeized_155 (by decide) ?_
      refine s_aloadn dL_isSeized_156 rfl rfl ?_
      refine s_iloadn dL_isSeized_157 rfl rfl ?_
      refine s_iconst (v := 0) dL_isSeized_158 (by decide) ?_
      refine s_q2 (n := 70) dL_isSeized_159 rfl (kv hC10.th (by decide) rfl) rfl (by decide) (by decide) (by decide) (by decide) (Nat.le_of_ble_eq_true rfl) (r_X3_ofClaim hC10) (a_oc0 hk2) ?_
      refine s_lconst (v := 1) dL_isSeized_162 (by decide) ?_
      refine s_lcne (tgt := 171) dL_isSeized_163 dL_isSeized_164 (by decide) (fun c_163 => ?_) (fun c => absurd c (fun e => hq (q2.mpr (by rw [re_eq, re_w, show (1 : Int64).toInt = 1 from rfl] at e; rw [re_ieq, one32]; exact e))))
      refine s_iconst (v := 0) dL_isSeized_171 (by decide) ?_
      refine s_icne (tgt := 210) dL_isSeized_172 (by decide) (fun c => absurd rfl c) (fun _ => ?_)
      refine s_lload dL_isSeized_175 rfl ?_
      refine s_lconst (v := 0) dL_isSeized_177 (by decide) ?_
      refine s_lceq (tgt := 193) dL_isSeized_178 dL_isSeized_179 (by decide) (fun c => absurd c hq) (fun c_178 => ?_)
      refine s_aloadn dL_isSeized_182 rfl rfl ?_
      refine s_iconst (v := 1) dL_isSeized_183 (by decide) ?_
      refine s_q1 (n := 71) dL_isSeized_184 rfl (kv hC10.th (by decide) rfl) rfl (by decide) (by decide) (by decide) (by decide) (Nat.le_of_ble_eq_true rfl) (r_X3_ofState hC10) (a_os1) ?_
      refine s_lload dL_isSeized_187 rfl ?_
      refine s_lcne (tgt := 210) dL_isSeized_189 dL_isSeized_190 (by decide) (fun c => absurd (q3 hq) c) (fun c_189 => ?_)
      refine s_aloadn dL_isSeized_193 rfl rfl ?_
      refine s_iloadn dL_isSeized_194 rfl rfl ?_
      refine s_iloadn dL_isSeized_195 rfl rfl ?_
      refine s_cw3G (n := 4) dL_isSeized_196 rfl rfl (by decide) (by decide) (by decide) (by decide) (Nat.le_of_ble_eq_true rfl) (m_L_seizes hC10 (R := .inl (some (.long (-2)))) (Or.inr ⟨by rw [eF3], rfl⟩)) (fun r S11 hr11 => ?_) (fun x S2 hr => by have h := hr.1; cases h)
      obtain ⟨er, hp11⟩ := hr11
      cases er
      have g := PO.gp hp11 hm9
      rw [eF3] at g
      dsimp only at g
      obtain ⟨w11, gt11, gn11, go11, gg11, hm11, hC11, fr11⟩ := g
      have hD11 := hD10.fr fr11
      have hW11 := hW10.fr fr11
      have hf11 := hf10.fr fr11
      rw [← gt11]
      refine s_ldc2 (v := (-2)) dL_isSeized_199 cslL_24 ?_
      refine s_lcne (tgt := 210) dL_isSeized_202 dL_isSeized_203 (by decide) (fun c => absurd rfl c) (fun _ => ?_)
      refine s_iconst (v := 1) dL_isSeized_206 (by decide) ?_
      refine s_goto (tgt := 211) dL_isSeized_207 (by decide) ?_
      exact s_reti dL_isSeized_211 rfl (nr_bool (by decide)) ⟨rfl, ⟨w11, c2, LW.of hC11 hm11 rfl (gn11.trans gn9) (go11.trans go9) (gg11.trans gg9) hD11 rfl rfl rfl (by rw [t2]) (by rw [t2]) hW11 (by rw [q4, if_neg hq]) hI2⟩, hf11⟩
    · skip
      refine s_lload dL_isSeized_105 rfl ?_
      refine s_goto (tgt := 111) dL_isSeized_107 (by decide) ?_
      refine s_lstore dL_isSeized_111 (by decide) ?_
      refine s_aloadn dL_isSeized_113 rfl rfl ?_
      refine s_iconst (v := 0) dL_isSeized_114 (by decide) ?_
      refine s_dup2 dL_isSeized_115 rfl rfl ?_
      refine s_laldv (j := 0) dL_isSeized_116 hW9.1 hW9.2.2 rfl (by rw [hW9.2.1]; decide) (by rw [hW9.2.1]; decide) ?_
      refine s_lload dL_isSeized_117 rfl ?_
      refine s_aloadn dL_isSeized_119 rfl rfl ?_
      refine s_iconst (v := 1) dL_isSeized_120 (by decide) ?_
      refine s_q1 (n := 71) dL_isSeized_121 rfl (kv hC9.th (by decide) rfl) rfl (by decide) (by decide) (by decide) (by decide) (Nat.le_of_ble_eq_true rfl) (r_X3_ofState hC9) (a_os1) ?_
      refine s_ladd dL_isSeized_124 ?_
      refine s_lload dL_isSeized_125 rfl ?_
      refine s_lsub dL_isSeized_127 ?_
      refine s_lload dL_isSeized_128 rfl ?_
      refine s_lsub dL_isSeized_130 ?_
      refine s_ladd dL_isSeized_131 ?_
      refine s_last' (j := 0) dL_isSeized_132 (Or.inr (Or.inr hW9.1)) rfl (by rw [hW9.2.1]; decide) (by rw [hW9.2.1]; decide) ?_
      have hC12 := hC9.J11 (k := 0) (y := (c.tj 4 + sA c w.n) + (((v + (c2.tj 4)) - (c.tj 4)) - (c.cj (ix k) 10))) hW9.1
      have hD12 := hD9.J (wa := wa) (x := (c.tj 4 + sA c w.n) + (((v + (c2.tj 4)) - (c.tj 4)) - (c.cj (ix k) 10)))
      have hf12 := hf9.J (k := 0) (v := (c.tj 4 + sA c w.n) + (((v + (c2.tj 4)) - (c.tj 4)) - (c.cj (ix k) 10))) hW9.1
      have hW12 := hW9.p (x := (c.tj 4 + sA c w.n) + (((v + (c2.tj 4)) - (c.tj 4)) - (c.cj (ix k) 10)))
      refine s_lload dL_isSeized_133 rfl ?_
      refine s_lload dL_isSeized_135 rfl ?_
      refine s_lload dL_isSeized_137 rfl ?_
      refine s_lsub dL_isSeized_139 ?_
      refine s_lcne (tgt := 210) dL_isSeized_140 dL_isSeized_141 (by decide) (fun c => absurd q1 c) (fun c_140 => ?_)
      refine s_lload dL_isSeized_144 rfl ?_
      refine s_lconst (v := 0) dL_isSeized_146 (by decide) ?_
      refine s_lcne (tgt := 155) dL_isSeized_147 dL_isSeized_148 (by decide) (fun c => absurd hq c) (fun c_147 => ?_)
      refine s_iconst (v := 1) dL_isSeized_151 (by decide) ?_
      refine s_goto (tgt := 156) dL_isSeized_152 (by decide) ?_
      refine s_aloadn dL_isSeized_156 rfl rfl ?_
      refine s_iloadn dL_isSeized_157 rfl rfl ?_
      refine s_iconst (v := 0) dL_isSeized_158 (by decide) ?_
      refine s_q2 (n := 70) dL_isSeized_159 rfl (kv hC12.th (by decide) rfl) rfl (by decide) (by decide) (by decide) (by decide) (Nat.le_of_ble_eq_true rfl) (r_X3_ofClaim hC12) (a_oc0 hk2) ?_
      refine s_lconst (v := 1) dL_isSeized_162 (by decide) ?_
      refine s_lcne (tgt := 171) dL_isSeized_163 dL_isSeized_164 (by decide) (fun c => absurd (by rw [q2.mp hq]; rfl) c) (fun c_163 => ?_)
      refine s_iconst (v := 1) dL_isSeized_167 (by decide) ?_
      refine s_goto (tgt := 172) dL_isSeized_168 (by decide) ?_
      refine s_icne (tgt := 210) dL_isSeized_172 (by decide) (fun c => absurd rfl c) (fun _ => ?_)
      refine s_lload dL_isSeized_175 rfl ?_
      refine s_lconst (v := 0) dL_isSeized_177 (by decide) ?_
      refine s_lceq (tgt := 193) dL_isSeized_178 dL_isSeized_179 (by decide) (fun c_178 => ?_) (fun c => absurd hq c)
      refine s_aloadn dL_isSeized_193 rfl rfl ?_
      refine s_iloadn dL_isSeized_194 rfl rfl ?_
      refine s_iloadn dL_isSeized_195 rfl rfl ?_
      refine s_cw3G (n := 4) dL_isSeized_196 rfl rfl (by decide) (by decide) (by decide) (by decide) (Nat.le_of_ble_eq_true rfl) (m_L_seizes hC12 (R := .inl (some (.long (-2)))) (Or.inr ⟨by rw [eF3], rfl⟩)) (fun r S13 hr13 => ?_) (fun x S2 hr => by have h := hr.1; cases h)
      obtain ⟨er, hp13⟩ := hr13
      cases er
      have g := PO.gp hp13 hm9
      rw [eF3] at g
      dsimp only at g
      obtain ⟨w13, gt13, gn13, go13, gg13, hm13, hC13, fr13⟩ := g
      have hD13 := hD12.fr fr13
      have hW13 := hW12.fr fr13
      have hf13 := hf12.fr fr13
      rw [← gt13]
      refine s_ldc2 (v := (-2)) dL_isSeized_199 cslL_24 ?_
      refine s_lcne (tgt := 210) dL_isSeized_202 dL_isSeized_203 (by decide) (fun c => absurd rfl c) (fun _ => ?_)
      refine s_iconst (v := 1) dL_isSeized_206 (by decide) ?_
      refine s_goto (tgt := 211) dL_isSeized_207 (by decide) ?_
      exact s_reti dL_isSeized_211 rfl (nr_bool (by decide)) ⟨rfl, ⟨w13, c2, LW.of hC13 hm13 rfl (gn13.trans gn9) (go13.trans go9) (gg13.trans gg9) hD13 rfl rfl rfl (by rw [t2]) (by rw [t2]) hW13 (by rw [q4, if_pos hq]) hI2⟩, hf13⟩
set_option maxHeartbeats 8000000 in
theorem m_L_isReviewed {tm : Nat × Nat} {S : Sto} {th da wa t : Nat} {w : CAd} {c : CC} (L : LW tm th da wa t S w c) : Ev tm M_L_isReviewed [.ref th, .ref da, .ref wa] S (GL tm th da wa t S) := by
  obtain ⟨⟨hC, hm, rfl⟩, hD, hW, hI⟩ := L
  have hf : F12 S S := F12.rf
  have hn := hI.b.1.1
  have hno := hI.b.1.2.1
  have hnt := hI.b.1.2.2.1
  refine ev_in ok_L_isReviewed (Nat.le_of_ble_eq_true rfl) ?_
  refine s_aloadn dL_isReviewed_0 rfl rfl ?_
  refine s_iconst (v := 4) dL_isReviewed_1 (by decide) ?_
  refine s_q1 (n := 71) dL_isReviewed_2 rfl (kv hC.th (by decide) rfl) rfl (by decide) (by decide) (by decide) (by decide) (Nat.le_of_ble_eq_true rfl) (r_X3_ofState hC) (a_os4) ?_
  refine s_lstoren dL_isReviewed_5 rfl (by decide) ?_
  refine s_aloadn dL_isReviewed_6 rfl rfl ?_
  refine s_iconst (v := 1) dL_isReviewed_7 (by decide) ?_
  refine s_q1 (n := 71) dL_isReviewed_8 rfl (kv hC.th (by decide) rfl) rfl (by decide) (by decide) (by decide) (by decide) (Nat.le_of_ble_eq_true rfl) (r_X3_ofState hC) (a_os1) ?_
  refine s_lstore dL_isReviewed_11 (by decide) ?_
  refine s_aloadn dL_isReviewed_13 rfl rfl ?_
  refine s_iconst (v := 0) dL_isReviewed_14 (by decide) ?_
  refine s_iconst (v := 0) dL_isReviewed_15 (by decide) ?_
  refine s_iconst (v := 4) dL_isReviewed_16 (by decide) ?_
  rcases p_review hI with ⟨hz, eF⟩ | ⟨v, hv, eF⟩ | ⟨hn4, c2, eF, hI2, t2, t3, j2, a2, u5, u7⟩
  · rcases hz with hz | hz
    · skip
      refine s_cw4G (n := 1) dL_isReviewed_17 rfl rfl (by decide) (by decide) (by decide) (by decide) (Nat.le_of_ble_eq_true rfl) (m_L_acts4 hC hm (R := .inl (some (.int (-2)))) (Or.inr ⟨by rw [eF], rfl⟩)) (fun r S14 hr14 => ?_) (fun x S2 hr => by have h := hr.1; cases h)
      obtain ⟨er, hp14⟩ := hr14
      cases er
      have g := PA.gp hp14
      rw [eF] at g
      dsimp only at g
      obtain ⟨w14, gt14, gn14, go14, gg14, hm14, hC14, fr14⟩ := g
      have hD14 := hD.fr fr14
      have hW14 := hW.fr fr14
      have hf14 := hf.fr fr14
      rw [← gt14]
      refine s_istore dL_isReviewed_20 (by decide) ?_
      refine s_iload dL_isReviewed_22 rfl ?_
      refine s_ifeq (tgt := 84) dL_isReviewed_24 (by decide) (fun c => absurd c (by decide)) (fun _ => ?_)
      refine s_aloadn dL_isReviewed_27 rfl rfl ?_
      refine s_iconst (v := 4) dL_isReviewed_28 (by decide) ?_
      refine s_q1 (n := 71) dL_isReviewed_29 rfl (kv hC14.th (by decide) rfl) rfl (by decide) (by decide) (by decide) (by decide) (Nat.le_of_ble_eq_true rfl) (r_X3_ofState hC14) (a_os4) ?_
      refine s_lloadn dL_isReviewed_32 rfl rfl ?_
      refine s_lcne (tgt := 82) dL_isReviewed_33 dL_isReviewed_34 (by decide) (fun c => absurd rfl c) (fun c_33 => ?_)
      refine s_aloadn dL_isReviewed_37 rfl rfl ?_
      refine s_iconst (v := 1) dL_isReviewed_38 (by decide) ?_
      refine s_q1 (n := 71) dL_isReviewed_39 rfl (kv hC14.th (by decide) rfl) rfl (by decide) (by decide) (by decide) (by decide) (Nat.le_of_ble_eq_true rfl) (r_X3_ofState hC14) (a_os1) ?_
      refine s_lload dL_isReviewed_42 rfl ?_
      refine s_lcne (tgt := 82) dL_isReviewed_44 dL_isReviewed_45 (by decide) (fun c => absurd rfl c) (fun c_44 => ?_)
      refine s_iload dL_isReviewed_48 rfl ?_
      refine s_bipush (v := (-2)) dL_isReviewed_50 (by decide) ?_
      refine s_icne (tgt := 72) dL_isReviewed_52 (by decide) (fun c => absurd rfl c) (fun _ => ?_)
      refine s_lloadn dL_isReviewed_55 rfl rfl ?_
      refine s_lconst (v := 0) dL_isReviewed_56 (by decide) ?_
      refine s_lceq (tgt := 78) dL_isReviewed_57 dL_isReviewed_58 (by decide) (fun c_57 => ?_) (fun c => absurd (by rw [hz]; rfl) c)
      refine s_iconst (v := 1) dL_isReviewed_78 (by decide) ?_
      refine s_goto (tgt := 83) dL_isReviewed_79 (by decide) ?_
      exact s_reti dL_isReviewed_83 rfl (nr_bool (by decide)) ⟨rfl, ⟨w14, c, LW.of hC14 hm14 rfl gn14 go14 gg14 hD14 rfl rfl rfl rfl rfl hW14 rfl hI⟩, hf14⟩
    · skip
      refine s_cw4G (n := 1) dL_isReviewed_17 rfl rfl (by decide) (by decide) (by decide) (by decide) (Nat.le_of_ble_eq_true rfl) (m_L_acts4 hC hm (R := .inl (some (.int (-2)))) (Or.inr ⟨by rw [eF], rfl⟩)) (fun r S15 hr15 => ?_) (fun x S2 hr => by have h := hr.1; cases h)
      obtain ⟨er, hp15⟩ := hr15
      cases er
      have g := PA.gp hp15
      rw [eF] at g
      dsimp only at g
      obtain ⟨w15, gt15, gn15, go15, gg15, hm15, hC15, fr15⟩ := g
      have hD15 := hD.fr fr15
      have hW15 := hW.fr fr15
      have hf15 := hf.fr fr15
      rw [← gt15]
      refine s_istore dL_isReviewed_20 (by decide) ?_
      refine s_iload dL_isReviewed_22 rfl ?_
      refine s_ifeq (tgt := 84) dL_isReviewed_24 (by decide) (fun c => absurd c (by decide)) (fun _ => ?_)
      refine s_aloadn dL_isReviewed_27 rfl rfl ?_
      refine s_iconst (v := 4) dL_isReviewed_28 (by decide) ?_
      refine s_q1 (n := 71) dL_isReviewed_29 rfl (kv hC15.th (by decide) rfl) rfl (by decide) (by decide) (by decide) (by decide) (Nat.le_of_ble_eq_true rfl) (r_X3_ofState hC15) (a_os4) ?_
      refine s_lloadn dL_isReviewed_32 rfl rfl ?_
      refine s_lcne (tgt := 82) dL_isReviewed_33 dL_isReviewed_34 (by decide) (fun c => absurd rfl c) (fun c_33 => ?_)
      refine s_aloadn dL_isReviewed_37 rfl rfl ?_
      refine s_iconst (v := 1) dL_isReviewed_38 (by decide) ?_
      refine s_q1 (n := 71) dL_isReviewed_39 rfl (kv hC15.th (by decide) rfl) rfl (by decide) (by decide) (by decide) (by decide) (Nat.le_of_ble_eq_true rfl) (r_X3_ofState hC15) (a_os1) ?_
      refine s_lload dL_isReviewed_42 rfl ?_
      refine s_lcne (tgt := 82) dL_isReviewed_44 dL_isReviewed_45 (by decide) (fun c => absurd rfl c) (fun c_44 => ?_)
      refine s_iload dL_isReviewed_48 rfl ?_
      refine s_bipush (v := (-2)) dL_isReviewed_50 (by decide) ?_
      refine s_icne (tgt := 72) dL_isReviewed_52 (by decide) (fun c => absurd rfl c) (fun _ => ?_)
      refine s_lloadn dL_isReviewed_55 rfl rfl ?_
      refine s_lconst (v := 0) dL_isReviewed_56 (by decide) ?_
      refine s_lceq (tgt := 78) dL_isReviewed_57 dL_isReviewed_58 (by decide) (fun _ => ?_) (fun _ => ?_)
      · skip
        refine s_iconst (v := 1) dL_isReviewed_78 (by decide) ?_
        refine s_goto (tgt := 83) dL_isReviewed_79 (by decide) ?_
        exact s_reti dL_isReviewed_83 rfl (nr_bool (by decide)) ⟨rfl, ⟨w15, c, LW.of hC15 hm15 rfl gn15 go15 gg15 hD15 rfl rfl rfl rfl rfl hW15 rfl hI⟩, hf15⟩
      · skip
        refine s_aloadn dL_isReviewed_61 rfl rfl ?_
        refine s_iconst (v := 0) dL_isReviewed_62 (by decide) ?_
        refine s_ialdv (j := 0) dL_isReviewed_63 hD15.1 hD15.2.2.1 rfl (by rw [hD15.2.1]; decide) (by rw [hD15.2.1]; decide) ?_
        refine s_bipush (v := 40) dL_isReviewed_64 (by decide) ?_
        refine s_icne (tgt := 82) dL_isReviewed_66 (by decide) (fun c => absurd (by rw [hz]; rfl) c) (fun c_66 => ?_)
        refine s_goto (tgt := 78) dL_isReviewed_69 (by decide) ?_
        refine s_iconst (v := 1) dL_isReviewed_78 (by decide) ?_
        refine s_goto (tgt := 83) dL_isReviewed_79 (by decide) ?_
        exact s_reti dL_isReviewed_83 rfl (nr_bool (by decide)) ⟨rfl, ⟨w15, c, LW.of hC15 hm15 rfl gn15 go15 gg15 hD15 rfl rfl rfl rfl rfl hW15 rfl hI⟩, hf15⟩
  · rcases hv with rfl | rfl | rfl
    · skip
      refine s_cw4G (n := 1) dL_isReviewed_17 rfl rfl (by decide) (by decide) (by decide) (by decide) (Nat.le_of_ble_eq_true rfl) (m_L_acts4 hC hm (R := .inl (some (.int 1))) (Or.inl ⟨_, by rw [eF], rfl⟩)) (fun r S16 hr16 => ?_) (fun x S2 hr => by have h := hr.1; cases h)
      obtain ⟨er, hp16⟩ := hr16
      cases er
      have g := PA.gp hp16
      rw [eF] at g
      dsimp only at g
      obtain ⟨w16, gt16, gn16, go16, gg16, hm16, hC16, fr16⟩ := g
      have hD16 := hD.fr fr16
      have hW16 := hW.fr fr16
      have hf16 := hf.fr fr16
      rw [← gt16]
      refine s_istore dL_isReviewed_20 (by decide) ?_
      refine s_iload dL_isReviewed_22 rfl ?_
      refine s_ifeq (tgt := 84) dL_isReviewed_24 (by decide) (fun c => absurd c (by decide)) (fun _ => ?_)
      refine s_aloadn dL_isReviewed_27 rfl rfl ?_
      refine s_iconst (v := 4) dL_isReviewed_28 (by decide) ?_
      refine s_q1 (n := 71) dL_isReviewed_29 rfl (kv hC16.th (by decide) rfl) rfl (by decide) (by decide) (by decide) (by decide) (Nat.le_of_ble_eq_true rfl) (r_X3_ofState hC16) (a_os4) ?_
      refine s_lloadn dL_isReviewed_32 rfl rfl ?_
      refine s_lcne (tgt := 82) dL_isReviewed_33 dL_isReviewed_34 (by decide) (fun c => absurd rfl c) (fun c_33 => ?_)
      refine s_aloadn dL_isReviewed_37 rfl rfl ?_
      refine s_iconst (v := 1) dL_isReviewed_38 (by decide) ?_
      refine s_q1 (n := 71) dL_isReviewed_39 rfl (kv hC16.th (by decide) rfl) rfl (by decide) (by decide) (by decide) (by decide) (Nat.le_of_ble_eq_true rfl) (r_X3_ofState hC16) (a_os1) ?_
      refine s_lload dL_isReviewed_42 rfl ?_
      refine s_lcne (tgt := 82) dL_isReviewed_44 dL_isReviewed_45 (by decide) (fun c => absurd rfl c) (fun c_44 => ?_)
      refine s_iload dL_isReviewed_48 rfl ?_
      refine s_bipush (v := (-2)) dL_isReviewed_50 (by decide) ?_
      refine s_icne (tgt := 72) dL_isReviewed_52 (by decide) (fun _ => ?_) (fun c => absurd c (by decide))
      refine s_iload dL_isReviewed_72 rfl ?_
      refine s_iconst (v := 4) dL_isReviewed_74 (by decide) ?_
      refine s_icge (tgt := 82) dL_isReviewed_75 (by decide) (fun c => absurd c (by decide)) (fun _ => ?_)
      refine s_iconst (v := 1) dL_isReviewed_78 (by decide) ?_
      refine s_goto (tgt := 83) dL_isReviewed_79 (by decide) ?_
      exact s_reti dL_isReviewed_83 rfl (nr_bool (by decide)) ⟨rfl, ⟨w16, c, LW.of hC16 hm16 rfl gn16 go16 gg16 hD16 rfl rfl rfl rfl rfl hW16 rfl hI⟩, hf16⟩
    · skip
      refine s_cw4G (n := 1) dL_isReviewed_17 rfl rfl (by decide) (by decide) (by decide) (by decide) (Nat.le_of_ble_eq_true rfl) (m_L_acts4 hC hm (R := .inl (some (.int 2))) (Or.inl ⟨_, by rw [eF], rfl⟩)) (fun r S17 hr17 => ?_) (fun x S2 hr => by have h := hr.1; cases h)
      obtain ⟨er, hp17⟩ := hr17
      cases er
      have g := PA.gp hp17
      rw [eF] at g
      dsimp only at g
      obtain ⟨w17, gt17, gn17, go17, gg17, hm17, hC17, fr17⟩ := g
      have hD17 := hD.fr fr17
      have hW17 := hW.fr fr17
      have hf17 := hf.fr fr17
      rw [← gt17]
      refine s_istore dL_isReviewed_20 (by decide) ?_
      refine s_iload dL_isReviewed_22 rfl ?_
      refine s_ifeq (tgt := 84) dL_isReviewed_24 (by decide) (fun c => absurd c (by decide)) (fun _ => ?_)
      refine s_aloadn dL_isReviewed_27 rfl rfl ?_
      refine s_iconst (v := 4) dL_isReviewed_28 (by decide) ?_
      refine s_q1 (n := 71) dL_isReviewed_29 rfl (kv hC17.th (by decide) rfl) rfl (by decide) (by decide) (by decide) (by decide) (Nat.le_of_ble_eq_true rfl) (r_X3_ofState hC17) (a_os4) ?_
      refine s_lloadn dL_isReviewed_32 rfl rfl ?_
      refine s_lcne (tgt := 82) dL_isReviewed_33 dL_isReviewed_34 (by decide) (fun c => absurd rfl c) (fun c_33 => ?_)
      refine s_aloadn dL_isReviewed_37 rfl rfl ?_
      refine s_iconst (v := 1) dL_isReviewed_38 (by decide) ?_
      refine s_q1 (n := 71) dL_isReviewed_39 rfl (kv hC17.th (by decide) rfl) rfl (by decide) (by decide) (by decide) (by decide) (Nat.le_of_ble_eq_true rfl) (r_X3_ofState hC17) (a_os1) ?_
      refine s_lload dL_isReviewed_42 rfl ?_
      refine s_lcne (tgt := 82) dL_isReviewed_44 dL_isReviewed_45 (by decide) (fun c => absurd rfl c) (fun c_44 => ?_)
      refine s_iload dL_isReviewed_48 rfl ?_
      refine s_bipush (v := (-2)) dL_isReviewed_50 (by decide) ?_
      refine s_icne (tgt := 72) dL_isReviewed_52 (by decide) (fun _ => ?_) (fun c => absurd c (by decide))
      refine s_iload dL_isReviewed_72 rfl ?_
      refine s_iconst (v := 4) dL_isReviewed_74 (by decide) ?_
      refine s_icge (tgt := 82) dL_isReviewed_75 (by decide) (fun c => absurd c (by decide)) (fun _ => ?_)
      refine s_iconst (v := 1) dL_isReviewed_78 (by decide) ?_
      refine s_goto (tgt := 83) dL_isReviewed_79 (by decide) ?_
      exact s_reti dL_isReviewed_83 rfl (nr_bool (by decide)) ⟨rfl, ⟨w17, c, LW.of hC17 hm17 rfl gn17 go17 gg17 hD17 rfl rfl rfl rfl rfl hW17 rfl hI⟩, hf17⟩
    · skip
      refine s_cw4G (n := 1) dL_isReviewed_17 rfl rfl (by decide) (by decide) (by decide) (by decide) (Nat.le_of_ble_eq_true rfl) (m_L_acts4 hC hm (R := .inl (some (.int 3))) (Or.inl ⟨_, by rw [eF], rfl⟩)) (fun r S18 hr18 => ?_) (fun x S2 hr => by have h := hr.1; cases h)
      obtain ⟨er, hp18⟩ := hr18
      cases er
      have g := PA.gp hp18
      rw [eF] at g
      dsimp only at g
      obtain ⟨w18, gt18, gn18, go18, gg18, hm18, hC18, fr18⟩ := g
      have hD18 := hD.fr fr18
      have hW18 := hW.fr fr18
      have hf18 := hf.fr fr18
      rw [← gt18]
      refine s_istore dL_isReviewed_20 (by decide) ?_
      refine s_iload dL_isReviewed_22 rfl ?_
      refine s_ifeq (tgt := 84) dL_isReviewed_24 (by decide) (fun c => absurd c (by decide)) (fun _ => ?_)
      refine s_aloadn dL_isReviewed_27 rfl rfl ?_
      refine s_iconst (v := 4) dL_isReviewed_28 (by decide) ?_
      refine s_q1 (n := 71) dL_isReviewed_29 rfl (kv hC18.th (by decide) rfl) rfl (by decide) (by decide) (by decide) (by decide) (Nat.le_of_ble_eq_true rfl) (r_X3_ofState hC18) (a_os4) ?_
      refine s_lloadn dL_isReviewed_32 rfl rfl ?_
      refine s_lcne (tgt := 82) dL_isReviewed_33 dL_isReviewed_34 (by decide) (fun c => absurd rfl c) (fun c_33 => ?_)
      refine s_aloadn dL_isReviewed_37 rfl rfl ?_
      refine s_iconst (v := 1) dL_isReviewed_38 (by decide) ?_
      refine s_q1 (n := 71) dL_isReviewed_39 rfl (kv hC18.th (by decide) rfl) rfl (by decide) (by decide) (by decide) (by decide) (Nat.le_of_ble_eq_true rfl) (r_X3_ofState hC18) (a_os1) ?_
      refine s_lload dL_isReviewed_42 rfl ?_
      refine s_lcne (tgt := 82) dL_isReviewed_44 dL_isReviewed_45 (by decide) (fun c => absurd rfl c) (fun c_44 => ?_)
      refine s_iload dL_isReviewed_48 rfl ?_
      refine s_bipush (v := (-2)) dL_isReviewed_50 (by decide) ?_
      refine s_icne (tgt := 72) dL_isReviewed_52 (by decide) (fun _ => ?_) (fun c => absurd c (by decide))
      refine s_iload dL_isReviewed_72 rfl ?_
      refine s_iconst (v := 4) dL_isReviewed_74 (by decide) ?_
      refine s_icge (tgt := 82) dL_isReviewed_75 (by decide) (fun c => absurd c (by decide)) (fun _ => ?_)
      refine s_iconst (v := 1) dL_isReviewed_78 (by decide) ?_
      refine s_goto (tgt := 83) dL_isReviewed_79 (by decide) ?_
      exact s_reti dL_isReviewed_83 rfl (nr_bool (by decide)) ⟨rfl, ⟨w18, c, LW.of hC18 hm18 rfl gn18 go18 gg18 hD18 rfl rfl rfl rfl rfl hW18 rfl hI⟩, hf18⟩
  · skip
    refine s_cw4G (n := 1) dL_isReviewed_17 rfl rfl (by decide) (by decide) (by decide) (by decide) (Nat.le_of_ble_eq_true rfl) (m_L_acts4 hC hm (R := .inl (some (.int 0))) (Or.inl ⟨_, by rw [eF], rfl⟩)) (fun r S19 hr19 => ?_) (fun x S2 hr => by have h := hr.1; cases h)
    obtain ⟨er, hp19⟩ := hr19
    cases er
    have g := PA.gp hp19
    rw [eF] at g
    dsimp only at g
    obtain ⟨w19, gt19, gn19, go19, gg19, hm19, hC19, fr19⟩ := g
    have hD19 := hD.fr fr19
    have hW19 := hW.fr fr19
    have hf19 := hf.fr fr19
    rw [← gt19]
    have hx : inr (nI w.n + 1 - 1) w19.n := by rw [gn19, ← nI_m]; exact inr_lt2 (by omega) (Nat.lt_succ_self _)
    have hix : ix (nI w.n + 1 - 1) = w.n := by rw [← nI_m]; exact re_ixnI (by omega)
    refine s_istore dL_isReviewed_20 (by decide) ?_
    refine s_iload dL_isReviewed_22 rfl ?_
    refine s_ifeq (tgt := 84) dL_isReviewed_24 (by decide) (fun _ => ?_) (fun c => absurd c (by decide))
    refine s_aloadn dL_isReviewed_84 rfl rfl ?_
    refine s_iconst (v := 0) dL_isReviewed_85 (by decide) ?_
    refine s_dup2 dL_isReviewed_86 rfl rfl ?_
    refine s_laldv (j := 0) dL_isReviewed_87 hW19.1 hW19.2.2 rfl (by rw [hW19.2.1]; decide) (by rw [hW19.2.1]; decide) ?_
    refine s_aloadn dL_isReviewed_88 rfl rfl ?_
    refine s_iconst (v := 4) dL_isReviewed_89 (by decide) ?_
    refine s_ialdv (j := 4) dL_isReviewed_90 hD19.1 hD19.2.2.2.2.2.2 rfl (by rw [hD19.2.1]; decide) (by rw [hD19.2.1]; decide) ?_
    refine s_i2l dL_isReviewed_91 ?_
    refine s_ladd dL_isReviewed_92 ?_
    refine s_last' (j := 0) dL_isReviewed_93 (Or.inr (Or.inr hW19.1)) rfl (by rw [hW19.2.1]; decide) (by rw [hW19.2.1]; decide) ?_
    have hC20 := hC19.J11 (k := 0) (y := (c.tj 4 + sA c w.n) + ((c.ti 11).toInt64)) hW19.1
    have hD20 := hD19.J (wa := wa) (x := (c.tj 4 + sA c w.n) + ((c.ti 11).toInt64))
    have hf20 := hf19.J (k := 0) (v := (c.tj 4 + sA c w.n) + ((c.ti 11).toInt64)) hW19.1
    have hW20 := hW19.p (x := (c.tj 4 + sA c w.n) + ((c.ti 11).toInt64))
    refine s_aloadn dL_isReviewed_94 rfl rfl ?_
    refine s_iconst (v := 0) dL_isReviewed_95 (by decide) ?_
    refine s_dup2 dL_isReviewed_96 rfl rfl ?_
    refine s_ialdv (j := 0) dL_isReviewed_97 hD20.1 hD20.2.2.1 rfl (by rw [hD20.2.1]; decide) (by rw [hD20.2.1]; decide) ?_
    refine s_iconst (v := 1) dL_isReviewed_98 (by decide) ?_
    refine s_iadd dL_isReviewed_99 ?_
    refine s_iast' (j := 0) dL_isReviewed_100 hD20.1 rfl (by rw [hD20.2.1]; decide) (by rw [hD20.2.1]; decide) ?_
    have hC21 := hC20.I6 (k := 0) (y := (nI w.n) + 1) hD20.1
    have hW21 := hW20.I (da := da) (k := 0) (y := (nI w.n) + 1)
    have hf21 := hf20.I (k := 0) (v := (nI w.n) + 1) hD20.1
    have hD21 := hD20.p0 (y := (nI w.n) + 1)
    refine s_aloadn dL_isReviewed_101 rfl rfl ?_
    refine s_iconst (v := 4) dL_isReviewed_102 (by decide) ?_
    refine s_q1 (n := 71) dL_isReviewed_103 rfl (kv hC21.th (by decide) rfl) rfl (by decide) (by decide) (by decide) (by decide) (Nat.le_of_ble_eq_true rfl) (r_X3_ofState hC21) (a_os4) ?_
    refine s_lloadn dL_isReviewed_106 rfl rfl ?_
    refine s_lconst (v := 1) dL_isReviewed_107 (by decide) ?_
    refine s_lsub dL_isReviewed_108 ?_
    refine s_lcne (tgt := 174) dL_isReviewed_109 dL_isReviewed_110 (by decide) (fun c => absurd t3 c) (fun c_109 => ?_)
    refine s_aloadn dL_isReviewed_113 rfl rfl ?_
    refine s_iconst (v := 1) dL_isReviewed_114 (by decide) ?_
    refine s_q1 (n := 71) dL_isReviewed_115 rfl (kv hC21.th (by decide) rfl) rfl (by decide) (by decide) (by decide) (by decide) (Nat.le_of_ble_eq_true rfl) (r_X3_ofState hC21) (a_os1) ?_
    refine s_lload dL_isReviewed_118 rfl ?_
    refine s_aloadn dL_isReviewed_120 rfl rfl ?_
    refine s_iconst (v := 4) dL_isReviewed_121 (by decide) ?_
    refine s_ialdv (j := 4) dL_isReviewed_122 hD21.1 hD21.2.2.2.2.2.2 rfl (by rw [hD21.2.1]; decide) (by rw [hD21.2.1]; decide) ?_
    refine s_i2l dL_isReviewed_123 ?_
    refine s_ladd dL_isReviewed_124 ?_
    refine s_lcne (tgt := 174) dL_isReviewed_125 dL_isReviewed_126 (by decide) (fun c => absurd j2 c) (fun c_125 => ?_)
    refine s_aloadn dL_isReviewed_129 rfl rfl ?_
    refine s_aloadn dL_isReviewed_130 rfl rfl ?_
    refine s_iconst (v := 0) dL_isReviewed_131 (by decide) ?_
    refine s_ialdv (j := 0) dL_isReviewed_132 hD21.1 hD21.2.2.1 rfl (by rw [hD21.2.1]; decide) (by rw [hD21.2.1]; decide) ?_
    refine s_iconst (v := 1) dL_isReviewed_133 (by decide) ?_
    refine s_isub dL_isReviewed_134 ?_
    refine s_iconst (v := 1) dL_isReviewed_135 (by decide) ?_
    refine s_q2 (n := 70) dL_isReviewed_136 rfl (kv hC21.th (by decide) rfl) rfl (by decide) (by decide) (by decide) (by decide) (Nat.le_of_ble_eq_true rfl) (r_X3_ofClaim hC21) ((a_oc1 hx).trans (by rw [hix])) ?_
    refine s_aloadn dL_isReviewed_139 rfl rfl ?_
    refine s_iconst (v := 4) dL_isReviewed_140 (by decide) ?_
    refine s_ialdv (j := 4) dL_isReviewed_141 hD21.1 hD21.2.2.2.2.2.2 rfl (by rw [hD21.2.1]; decide) (by rw [hD21.2.1]; decide) ?_
    refine s_i2l dL_isReviewed_142 ?_
    refine s_lcne (tgt := 174) dL_isReviewed_143 dL_isReviewed_144 (by decide) (fun c => absurd u5 c) (fun c_143 => ?_)
    refine s_aloadn dL_isReviewed_147 rfl rfl ?_
    refine s_aloadn dL_isReviewed_148 rfl rfl ?_
    refine s_iconst (v := 0) dL_isReviewed_149 (by decide) ?_
    refine s_ialdv (j := 0) dL_isReviewed_150 hD21.1 hD21.2.2.1 rfl (by rw [hD21.2.1]; decide) (by rw [hD21.2.1]; decide) ?_
    refine s_iconst (v := 1) dL_isReviewed_151 (by decide) ?_
    refine s_isub dL_isReviewed_152 ?_
    refine s_iconst (v := 3) dL_isReviewed_153 (by decide) ?_
    refine s_q2 (n := 70) dL_isReviewed_154 rfl (kv hC21.th (by decide) rfl) rfl (by decide) (by decide) (by decide) (by decide) (Nat.le_of_ble_eq_true rfl) (r_X3_ofClaim hC21) ((a_oc3 hx).trans (by rw [hix])) ?_
    refine s_aloadn dL_isReviewed_157 rfl rfl ?_
    refine s_iconst (v := 0) dL_isReviewed_158 (by decide) ?_
    refine s_q1 (n := 71) dL_isReviewed_159 rfl (kv hC21.th (by decide) rfl) rfl (by decide) (by decide) (by decide) (by decide) (Nat.le_of_ble_eq_true rfl) (r_X3_ofState hC21) (a_os0) ?_
    refine s_ldc2 (v := 5) dL_isReviewed_162 cslL_163 ?_
    refine s_ladd dL_isReviewed_165 ?_
    refine s_lcne (tgt := 174) dL_isReviewed_166 dL_isReviewed_167 (by decide) (fun c => absurd (by rw [u7, t2 3 (by decide)]) c) (fun c_166 => ?_)
    refine s_iconst (v := 1) dL_isReviewed_170 (by decide) ?_
    refine s_goto (tgt := 175) dL_isReviewed_171 (by decide) ?_
    exact s_reti dL_isReviewed_175 rfl (nr_bool (by decide)) ⟨rfl, ⟨w19, c2, LW.of hC21 hm19 rfl gn19 go19 gg19 hD21 (re_cnt (show w.n < 600 by omega)).2 rfl rfl (t2 7 (by decide)).symm (t2 11 (by decide)).symm hW21 (by rw [j2, a2]; grind) hI2⟩, hf21⟩
