/-! THE LAW, 14: isYear -/
set_option maxHeartbeats 8000000 in
theorem m_L_isYear {tm : Nat × Nat} {S : Sto} {th da wa t : Nat} {w : CAd} {c : CC} (L : LW tm th da wa t S w c) : Ev tm M_L_isYear [.ref th, .ref da, .ref wa] S (GL tm th da wa t S) := by
  obtain ⟨⟨hC, hm, rfl⟩, hD, hW, hI⟩ := L
  have hf : F12 S S := F12.rf
  have hn := hI.b.1.1
  have hno := hI.b.1.2.1
  have hnt := hI.b.1.2.2.1
  refine ev_in ok_L_isYear (Nat.le_of_ble_eq_true rfl) ?_
  refine s_aloadn dL_isYear_0 rfl rfl ?_
  refine s_iconst (v := 2) dL_isYear_1 (by decide) ?_
  refine s_q1 (n := 71) dL_isYear_2 rfl (kv hC.th (by decide) rfl) rfl (by decide) (by decide) (by decide) (by decide) (Nat.le_of_ble_eq_true rfl) (r_X3_ofState hC) (a_os2) ?_
  refine s_aloadn dL_isYear_5 rfl rfl ?_
  refine s_iconst (v := 3) dL_isYear_6 (by decide) ?_
  refine s_ialdv (j := 3) dL_isYear_7 hD.1 hD.2.2.2.2.2.1 rfl (by rw [hD.2.1]; decide) (by rw [hD.2.1]; decide) ?_
  refine s_i2l dL_isYear_8 ?_
  refine s_lmul dL_isYear_9 ?_
  refine s_ldc2 (v := 1000) dL_isYear_10 cslL_140 ?_
  refine s_cs2R (n := 27) dL_isYear_13 rfl rfl (by decide) (by decide) (by decide) (by decide) (Nat.le_of_ble_eq_true rfl) (m_L_down (by decide)) ?_
  refine s_lstoren dL_isYear_16 rfl (by decide) ?_
  refine s_lconst (v := 0) dL_isYear_17 (by decide) ?_
  refine s_lstore dL_isYear_18 (by decide) ?_
  refine s_aloadn dL_isYear_20 rfl rfl ?_
  refine s_iconst (v := 0) dL_isYear_21 (by decide) ?_
  refine s_q1 (n := 71) dL_isYear_22 rfl (kv hC.th (by decide) rfl) rfl (by decide) (by decide) (by decide) (by decide) (Nat.le_of_ble_eq_true rfl) (r_X3_ofState hC) (a_os0) ?_
  refine s_lstore dL_isYear_25 (by decide) ?_
  refine s_iconst (v := 0) dL_isYear_27 (by decide) ?_
  refine s_istore dL_isYear_28 (by decide) ?_
  have K1 : Wp (Ev tm) tm M_L_isYear (GL tm w.th da wa t S) 56 [(0, .ref w.th), (1, .ref da), (2, .ref wa), (3, .long (f_L_down (c.tj 5 * (c.ti 7).toInt64) 1000)), (5, .long (sP c w.n)), (7, .long ((c.ti 3).toInt64)), (9, .int (nI w.n))] [] 260 1560 S := by
    refine s_aloadn dL_isYear_56 rfl rfl ?_
    rcases p_year hI with ⟨e60, eF⟩ | ⟨h59, eF⟩
    · skip
      refine s_cw1G (n := 3) dL_isYear_57 rfl rfl (by decide) (by decide) (by decide) (by decide) (Nat.le_of_ble_eq_true rfl) (m_L_years hC (R := .inl (some (.long (-2)))) (Or.inr ⟨by rw [eF], rfl⟩)) (fun r S5 hr5 => ?_) (fun x S2 hr => by have h := hr.1; cases h)
      obtain ⟨er, hp5⟩ := hr5
      cases er
      have g := PO.gp hp5 hm
      rw [eF] at g
      dsimp only at g
      obtain ⟨w5, gt5, gn5, go5, gg5, hm5, hC5, fr5⟩ := g
      have hD5 := hD.fr fr5
      have hW5 := hW.fr fr5
      have hf5 := hf.fr fr5
      rw [← gt5]
      refine s_lstore dL_isYear_60 (by decide) ?_
      refine s_lload dL_isYear_62 rfl ?_
      refine s_ldc2 (v := (-2)) dL_isYear_64 cslL_24 ?_
      refine s_lcne (tgt := 98) dL_isYear_67 dL_isYear_68 (by decide) (fun c => absurd rfl c) (fun _ => ?_)
      refine s_lload dL_isYear_71 rfl ?_
      refine s_ldc2 (v := 60) dL_isYear_73 cslL_150 ?_
      refine s_lcne (tgt := 96) dL_isYear_76 dL_isYear_77 (by decide) (fun c => absurd (by rw [e60]; rfl) c) (fun c_76 => ?_)
      refine s_aloadn dL_isYear_80 rfl rfl ?_
      refine s_iconst (v := 0) dL_isYear_81 (by decide) ?_
      refine s_q1 (n := 71) dL_isYear_82 rfl (kv hC5.th (by decide) rfl) rfl (by decide) (by decide) (by decide) (by decide) (Nat.le_of_ble_eq_true rfl) (r_X3_ofState hC5) (a_os0) ?_
      refine s_ldc2 (v := 60) dL_isYear_85 cslL_150 ?_
      refine s_lcne (tgt := 96) dL_isYear_88 dL_isYear_89 (by decide) (fun c => absurd (by rw [e60]; rfl) c) (fun c_88 => ?_)
      refine s_iconst (v := 1) dL_isYear_92 (by decide) ?_
      refine s_goto (tgt := 97) dL_isYear_93 (by decide) ?_
      exact s_reti dL_isYear_97 rfl (nr_bool (by decide)) ⟨rfl, ⟨w5, c, LW.of hC5 hm5 rfl gn5 go5 gg5 hD5 rfl rfl rfl rfl rfl hW5 rfl hI⟩, hf5⟩
    · skip
      obtain ⟨hI2, ⟨y1, y2⟩, ⟨y3, y4⟩, y5, y6, y7⟩ := z_pass hI h59
      generalize hPP : f_X3_passYear w.n c = P at *
      refine s_cw1G (n := 3) dL_isYear_57 rfl rfl (by decide) (by decide) (by decide) (by decide) (Nat.le_of_ble_eq_true rfl) (m_L_years hC (R := .inl (some (.long P.1))) (Or.inl ⟨_, by rw [eF], rfl⟩)) (fun r S6 hr6 => ?_) (fun x S2 hr => by have h := hr.1; cases h)
      obtain ⟨er, hp6⟩ := hr6
      cases er
      have g := PO.gp hp6 hm
      rw [eF] at g
      dsimp only at g
      obtain ⟨w6, gt6, gn6, go6, gg6, hm6, hC6, fr6⟩ := g
      have hD6 := hD.fr fr6
      have hW6 := hW.fr fr6
      have hf6 := hf.fr fr6
      rw [← gt6]
      refine s_lstore dL_isYear_60 (by decide) ?_
      refine s_lload dL_isYear_62 rfl ?_
      refine s_ldc2 (v := (-2)) dL_isYear_64 cslL_24 ?_
      refine s_lcne (tgt := 98) dL_isYear_67 dL_isYear_68 (by decide) (fun c_67 => ?_) (fun c => absurd c (by rw [re_eq, show (-2 : Int64).toInt = -2 from rfl]; omega))
      refine s_aloadn dL_isYear_98 rfl rfl ?_
      refine s_iconst (v := 0) dL_isYear_99 (by decide) ?_
      refine s_dup2 dL_isYear_100 rfl rfl ?_
      refine s_laldv (j := 0) dL_isYear_101 hW6.1 hW6.2.2 rfl (by rw [hW6.2.1]; decide) (by rw [hW6.2.1]; decide) ?_
      refine s_lloadn dL_isYear_102 rfl rfl ?_
      refine s_ladd dL_isYear_103 ?_
      refine s_last' (j := 0) dL_isYear_104 (Or.inr (Or.inr hW6.1)) rfl (by rw [hW6.2.1]; decide) (by rw [hW6.2.1]; decide) ?_
      have hC7 := hC6.J11 (k := 0) (y := (c.tj 4 + sA c w.n) + (f_L_down (c.tj 5 * (c.ti 7).toInt64) 1000)) hW6.1
      have hD7 := hD6.J (wa := wa) (x := (c.tj 4 + sA c w.n) + (f_L_down (c.tj 5 * (c.ti 7).toInt64) 1000))
      have hf7 := hf6.J (k := 0) (v := (c.tj 4 + sA c w.n) + (f_L_down (c.tj 5 * (c.ti 7).toInt64) 1000)) hW6.1
      have hW7 := hW6.p (x := (c.tj 4 + sA c w.n) + (f_L_down (c.tj 5 * (c.ti 7).toInt64) 1000))
      refine s_aloadn dL_isYear_105 rfl rfl ?_
      refine s_iconst (v := 0) dL_isYear_106 (by decide) ?_
      refine s_q1 (n := 71) dL_isYear_107 rfl (kv hC7.th (by decide) rfl) rfl (by decide) (by decide) (by decide) (by decide) (Nat.le_of_ble_eq_true rfl) (r_X3_ofState hC7) (a_os0) ?_
      refine s_lload dL_isYear_110 rfl ?_
      refine s_lconst (v := 1) dL_isYear_112 (by decide) ?_
      refine s_ladd dL_isYear_113 ?_
      refine s_lcne (tgt := 129) dL_isYear_114 dL_isYear_115 (by decide) (fun c => absurd (by rw [y1]; exact year_up h59 hI.b.2.1.1) c) (fun c_114 => ?_)
      refine s_lload dL_isYear_118 rfl ?_
      refine s_lconst (v := 0) dL_isYear_120 (by decide) ?_
      refine s_lclt (tgt := 129) dL_isYear_121 dL_isYear_122 (by decide) (fun c => absurd c (by rw [re_lt, show (0 : Int64).toInt = 0 from rfl]; omega)) (fun c_121 => ?_)
      refine s_iconst (v := 1) dL_isYear_125 (by decide) ?_
      refine s_goto (tgt := 130) dL_isYear_126 (by decide) ?_
      refine s_istore dL_isYear_130 (by decide) ?_
      refine s_iconst (v := 0) dL_isYear_132 (by decide) ?_
      refine s_istore dL_isYear_133 (by decide) ?_
      have hbn : w6.n = w.n := gn6
      have K2 : Wp (Ev tm) tm M_L_isYear (GL tm w6.th da wa t S) 198 [(0, .ref w6.th), (1, .ref da), (2, .ref wa), (5, .long (sP c w.n - sP P.2 w.n)), (9, .long P.1), (11, .int 1), (12, .int (nI w.n))] [] 0 0 (uJ S6 wa 0 ((c.tj 4 + sA c w.n) + (f_L_down (c.tj 5 * (c.ti 7).toInt64) 1000))) := by
        refine s_iload dL_isYear_198 rfl ?_
        refine s_ifeq (tgt := 216) dL_isYear_200 (by decide) (fun c => absurd c (by decide)) (fun _ => ?_)
        refine s_lload dL_isYear_203 rfl ?_
        refine s_lload dL_isYear_205 rfl ?_
        refine s_lneg dL_isYear_207 ?_
        refine s_lcne (tgt := 216) dL_isYear_208 dL_isYear_209 (by decide) (fun c => absurd (by rw [y6]; grind) c) (fun c_208 => ?_)
        refine s_iconst (v := 1) dL_isYear_212 (by decide) ?_
        refine s_goto (tgt := 217) dL_isYear_213 (by decide) ?_
        exact s_reti dL_isYear_217 rfl (nr_bool (by decide)) ⟨rfl, ⟨w6, P.2, LW.of hC7 hm6 rfl gn6 go6 gg6 hD7 rfl rfl rfl (y2 7 (by decide)).symm (y2 11 (by decide)).symm hW7 (by rw [y5, down_eq]; unfold f_X3_broughtBy; rfl) hI2⟩, hf7⟩
      have L2 : ∀ (r k bc bs : Nat), k + r = w.n → 6 * r ≤ bc → 36 * r ≤ bs → Wp (Ev tm) tm M_L_isYear (GL tm w6.th da wa t S) 135 [(0, .ref w6.th), (1, .ref da), (2, .ref wa), (5, .long (sP c w.n - sP P.2 k)), (9, .long P.1), (11, .int 1), (12, .int (nI k))] [] bc bs (uJ S6 wa 0 ((c.tj 4 + sA c w.n) + (f_L_down (c.tj 5 * (c.ti 7).toInt64) 1000))) := by
        intro r
        induction r with
        | zero =>
          intro k bc bs hkr hb1 hb2
          have hk : k = w.n := by omega
          subst hk
          refine s_iload dL_isYear_135 rfl ?_
          refine s_aloadn dL_isYear_137 rfl rfl ?_
          refine s_iconst (v := 0) dL_isYear_138 (by decide) ?_
          refine s_ialdv (j := 0) dL_isYear_139 hD7.1 hD7.2.2.1 rfl (by rw [hD7.2.1]; decide) (by rw [hD7.2.1]; decide) ?_
          refine s_icge (tgt := 198) dL_isYear_140 (by decide) (fun c_140 => ?_) (fun c => absurd (Int32.le_refl _) c)
          exact s_sub (lo' := [(0, .ref w6.th), (1, .ref da), (2, .ref wa), (5, .long (sP c w.n - sP P.2 w.n)), (9, .long P.1), (11, .int 1), (12, .int (nI w.n))]) (List.forall_mem_cons.mpr ⟨rfl, List.forall_mem_cons.mpr ⟨rfl, List.forall_mem_cons.mpr ⟨rfl, List.forall_mem_cons.mpr ⟨rfl, List.forall_mem_cons.mpr ⟨rfl, List.forall_mem_cons.mpr ⟨rfl, List.forall_mem_cons.mpr ⟨rfl, fun _ h => absurd h List.not_mem_nil⟩⟩⟩⟩⟩⟩⟩) (show 0 ≤ bc by omega) (show 0 ≤ bs by omega) (K2)
        | succ r ih =>
          intro k bc bs hkr hb1 hb2
          have hkn : k < w.n := by omega
          have hik : inr (nI k) w6.n := by rw [hbn]; exact inr_lt2 (by omega) hkn
          have hix : ix (nI k) = k := re_ixnI (by omega)
          refine s_iload dL_isYear_135 rfl ?_
          refine s_aloadn dL_isYear_137 rfl rfl ?_
          refine s_iconst (v := 0) dL_isYear_138 (by decide) ?_
          refine s_ialdv (j := 0) dL_isYear_139 hD7.1 hD7.2.2.1 rfl (by rw [hD7.2.1]; decide) (by rw [hD7.2.1]; decide) ?_
          refine s_icge (tgt := 198) dL_isYear_140 (by decide) (fun c => absurd c (by rw [re_ile, re_nI (by omega), re_nI (by omega)]; omega)) (fun c_140 => ?_)
          refine s_iload dL_isYear_143 rfl ?_
          refine s_ifeq (tgt := 198) dL_isYear_145 (by decide) (fun c => absurd c (by decide)) (fun _ => ?_)
          refine s_lload dL_isYear_148 rfl ?_
          refine s_aloadn dL_isYear_150 rfl rfl ?_
          refine s_iload dL_isYear_151 rfl ?_
          refine s_iconst (v := 4) dL_isYear_153 (by decide) ?_
          refine s_q2 (n := 70) dL_isYear_154 rfl (kv hC7.th (by decide) rfl) rfl (by decide) (by decide) (show 2 ≤ bc by omega) (show 12 ≤ bs by omega) (Nat.le_of_ble_eq_true rfl) (r_X3_ofClaim hC7) ((a_oc4 hik).trans (by rw [hix])) ?_
          refine s_lsub dL_isYear_157 ?_
          refine s_lstore dL_isYear_158 (by decide) ?_
          refine s_aloadn dL_isYear_160 rfl rfl ?_
          refine s_iload dL_isYear_161 rfl ?_
          refine s_bipush (v := 6) dL_isYear_163 (by decide) ?_
          refine s_q2 (n := 70) dL_isYear_165 rfl (kv hC7.th (by decide) rfl) rfl (by decide) (by decide) (show 2 ≤ bc - 2 by omega) (show 12 ≤ bs - 12 by omega) (Nat.le_of_ble_eq_true rfl) (r_X3_ofClaim hC7) ((a_oc6 hik).trans (by rw [hix])) ?_
          refine s_lconst (v := 1) dL_isYear_168 (by decide) ?_
          refine s_lcne (tgt := 185) dL_isYear_169 dL_isYear_170 (by decide) (fun c_168 => ?_) (fun c_168 => ?_)
          · skip
            refine s_iconst (v := 1) dL_isYear_185 (by decide) ?_
            refine s_goto (tgt := 190) dL_isYear_186 (by decide) ?_
            refine s_istore dL_isYear_190 (by decide) ?_
            refine s_iinc (v := nI (k + 1)) dL_isYear_192 rfl (re_cnt (show k < 600 by omega)).2 (by decide) ?_
            refine s_goto (tgt := 135) dL_isYear_195 (by decide) ?_
            have e5 : sP c w.n - sP P.2 k - P.2.cj k 15 = sP c w.n - sP P.2 (k + 1) := by
              show _ = sP c w.n - (sP P.2 k + P.2.cj k 15)
              grind
            exact s_sub (lo' := [(0, .ref w6.th), (1, .ref da), (2, .ref wa), (5, .long (sP c w.n - sP P.2 (k + 1))), (9, .long P.1), (11, .int 1), (12, .int (nI (k + 1)))]) (List.forall_mem_cons.mpr ⟨rfl, List.forall_mem_cons.mpr ⟨rfl, List.forall_mem_cons.mpr ⟨rfl, List.forall_mem_cons.mpr ⟨congrArg (fun z => some (Value.long z)) (e5), List.forall_mem_cons.mpr ⟨rfl, List.forall_mem_cons.mpr ⟨rfl, List.forall_mem_cons.mpr ⟨rfl, fun _ h => absurd h List.not_mem_nil⟩⟩⟩⟩⟩⟩⟩) (show 6 * r ≤ bc - 2 - 2 by omega) (show 36 * r ≤ bs - 12 - 12 by omega) (ih (k + 1) _ _ (by omega) (Nat.le_refl _) (Nat.le_refl _))
          · skip
            refine s_aloadn dL_isYear_173 rfl rfl ?_
            refine s_iload dL_isYear_174 rfl ?_
            refine s_iconst (v := 0) dL_isYear_176 (by decide) ?_
            refine s_q2 (n := 70) dL_isYear_177 rfl (kv hC7.th (by decide) rfl) rfl (by decide) (by decide) (show 2 ≤ bc - 2 - 2 by omega) (show 12 ≤ bs - 12 - 12 by omega) (Nat.le_of_ble_eq_true rfl) (r_X3_ofClaim hC7) ((a_oc0 hik).trans (by rw [hix])) ?_
            refine s_lconst (v := 0) dL_isYear_180 (by decide) ?_
            refine s_lcle (tgt := 189) dL_isYear_181 dL_isYear_182 (by decide) (fun c => absurd c (st_pos hI2.b hkn (y7 k hkn (by rw [re_eq, re_w, show (1 : Int64).toInt = 1 from rfl] at c_168; rw [re_ieq, one32]; exact c_168)))) (fun c_181 => ?_)
            refine s_iconst (v := 1) dL_isYear_185 (by decide) ?_
            refine s_goto (tgt := 190) dL_isYear_186 (by decide) ?_
            refine s_istore dL_isYear_190 (by decide) ?_
            refine s_iinc (v := nI (k + 1)) dL_isYear_192 rfl (re_cnt (show k < 600 by omega)).2 (by decide) ?_
            refine s_goto (tgt := 135) dL_isYear_195 (by decide) ?_
            have e5 : sP c w.n - sP P.2 k - P.2.cj k 15 = sP c w.n - sP P.2 (k + 1) := by
              show _ = sP c w.n - (sP P.2 k + P.2.cj k 15)
              grind
            exact s_sub (lo' := [(0, .ref w6.th), (1, .ref da), (2, .ref wa), (5, .long (sP c w.n - sP P.2 (k + 1))), (9, .long P.1), (11, .int 1), (12, .int (nI (k + 1)))]) (List.forall_mem_cons.mpr ⟨rfl, List.forall_mem_cons.mpr ⟨rfl, List.forall_mem_cons.mpr ⟨rfl, List.forall_mem_cons.mpr ⟨congrArg (fun z => some (Value.long z)) (e5), List.forall_mem_cons.mpr ⟨rfl, List.forall_mem_cons.mpr ⟨rfl, List.forall_mem_cons.mpr ⟨rfl, fun _ h => absurd h List.not_mem_nil⟩⟩⟩⟩⟩⟩⟩) (show 6 * r ≤ bc - 2 - 2 - 2 by omega) (show 36 * r ≤ bs - 12 - 12 - 12 by omega) (ih (k + 1) _ _ (by omega) (Nat.le_refl _) (Nat.le_refl _))
      exact s_sub (lo' := [(0, .ref w6.th), (1, .ref da), (2, .ref wa), (5, .long (sP c w.n - sP P.2 0)), (9, .long P.1), (11, .int 1), (12, .int (nI 0))]) (List.forall_mem_cons.mpr ⟨rfl, List.forall_mem_cons.mpr ⟨rfl, List.forall_mem_cons.mpr ⟨rfl, List.forall_mem_cons.mpr ⟨congrArg (fun z => some (Value.long z)) (show sP c w.n = sP c w.n - 0 by grind), List.forall_mem_cons.mpr ⟨rfl, List.forall_mem_cons.mpr ⟨rfl, List.forall_mem_cons.mpr ⟨rfl, fun _ h => absurd h List.not_mem_nil⟩⟩⟩⟩⟩⟩⟩) (show 6 * w.n ≤ 260 - 2 - 1 by omega) (show 36 * w.n ≤ 1560 - 12 - 6 by omega) (L2 w.n 0 _ _ (by omega) (Nat.le_refl _) (Nat.le_refl _))
  have L1 : ∀ (r k bc bs : Nat), k + r = w.n → 2 * r + 260 ≤ bc → 12 * r + 1560 ≤ bs → Wp (Ev tm) tm M_L_isYear (GL tm w.th da wa t S) 30 [(0, .ref w.th), (1, .ref da), (2, .ref wa), (3, .long (f_L_down (c.tj 5 * (c.ti 7).toInt64) 1000)), (5, .long (sP c k)), (7, .long ((c.ti 3).toInt64)), (9, .int (nI k))] [] bc bs S := by
    intro r
    induction r with
    | zero =>
      intro k bc bs hkr hb1 hb2
      have hk : k = w.n := by omega
      subst hk
      refine s_iload dL_isYear_30 rfl ?_
      refine s_aloadn dL_isYear_32 rfl rfl ?_
      refine s_iconst (v := 0) dL_isYear_33 (by decide) ?_
      refine s_ialdv (j := 0) dL_isYear_34 hD.1 hD.2.2.1 rfl (by rw [hD.2.1]; decide) (by rw [hD.2.1]; decide) ?_
      refine s_icge (tgt := 56) dL_isYear_35 (by decide) (fun c_35 => ?_) (fun c => absurd (Int32.le_refl _) c)
      exact s_sub (lo' := [(0, .ref w.th), (1, .ref da), (2, .ref wa), (3, .long (f_L_down (c.tj 5 * (c.ti 7).toInt64) 1000)), (5, .long (sP c w.n)), (7, .long ((c.ti 3).toInt64)), (9, .int (nI w.n))]) (List.forall_mem_cons.mpr ⟨rfl, List.forall_mem_cons.mpr ⟨rfl, List.forall_mem_cons.mpr ⟨rfl, List.forall_mem_cons.mpr ⟨rfl, List.forall_mem_cons.mpr ⟨rfl, List.forall_mem_cons.mpr ⟨rfl, List.forall_mem_cons.mpr ⟨rfl, fun _ h => absurd h List.not_mem_nil⟩⟩⟩⟩⟩⟩⟩) (show 260 ≤ bc by omega) (show 1560 ≤ bs by omega) (K1)
    | succ r ih =>
      intro k bc bs hkr hb1 hb2
      have hkn : k < w.n := by omega
      have hik : inr (nI k) w.n := inr_lt2 (by omega) hkn
      have hix : ix (nI k) = k := re_ixnI (by omega)
      refine s_iload dL_isYear_30 rfl ?_
      refine s_aloadn dL_isYear_32 rfl rfl ?_
      refine s_iconst (v := 0) dL_isYear_33 (by decide) ?_
      refine s_ialdv (j := 0) dL_isYear_34 hD.1 hD.2.2.1 rfl (by rw [hD.2.1]; decide) (by rw [hD.2.1]; decide) ?_
      refine s_icge (tgt := 56) dL_isYear_35 (by decide) (fun c => absurd c (by rw [re_ile, re_nI (by omega), re_nI (by omega)]; omega)) (fun c_35 => ?_)
      refine s_lload dL_isYear_38 rfl ?_
      refine s_aloadn dL_isYear_40 rfl rfl ?_
      refine s_iload dL_isYear_41 rfl ?_
      refine s_iconst (v := 4) dL_isYear_43 (by decide) ?_
      refine s_q2 (n := 70) dL_isYear_44 rfl (kv hC.th (by decide) rfl) rfl (by decide) (by decide) (show 2 ≤ bc by omega) (show 12 ≤ bs by omega) (Nat.le_of_ble_eq_true rfl) (r_X3_ofClaim hC) ((a_oc4 hik).trans (by rw [hix])) ?_
      refine s_ladd dL_isYear_47 ?_
      refine s_lstore dL_isYear_48 (by decide) ?_
      refine s_iinc (v := nI (k + 1)) dL_isYear_50 rfl (re_cnt (show k < 600 by omega)).2 (by decide) ?_
      refine s_goto (tgt := 30) dL_isYear_53 (by decide) ?_
      exact s_sub (lo' := [(0, .ref w.th), (1, .ref da), (2, .ref wa), (3, .long (f_L_down (c.tj 5 * (c.ti 7).toInt64) 1000)), (5, .long (sP c (k + 1))), (7, .long ((c.ti 3).toInt64)), (9, .int (nI (k + 1)))]) (List.forall_mem_cons.mpr ⟨rfl, List.forall_mem_cons.mpr ⟨rfl, List.forall_mem_cons.mpr ⟨rfl, List.forall_mem_cons.mpr ⟨rfl, List.forall_mem_cons.mpr ⟨rfl, List.forall_mem_cons.mpr ⟨rfl, List.forall_mem_cons.mpr ⟨rfl, fun _ h => absurd h List.not_mem_nil⟩⟩⟩⟩⟩⟩⟩) (show 2 * r + 260 ≤ bc - 2 by omega) (show 12 * r + 1560 ≤ bs - 12 by omega) (ih (k + 1) _ _ (by omega) (Nat.le_refl _) (Nat.le_refl _))
  exact s_sub (lo' := [(0, .ref w.th), (1, .ref da), (2, .ref wa), (3, .long (f_L_down (c.tj 5 * (c.ti 7).toInt64) 1000)), (5, .long (sP c 0)), (7, .long ((c.ti 3).toInt64)), (9, .int (nI 0))]) (List.forall_mem_cons.mpr ⟨rfl, List.forall_mem_cons.mpr ⟨rfl, List.forall_mem_cons.mpr ⟨rfl, List.forall_mem_cons.mpr ⟨rfl, List.forall_mem_cons.mpr ⟨rfl, List.forall_mem_cons.mpr ⟨rfl, List.forall_mem_cons.mpr ⟨rfl, fun _ h => absurd h List.not_mem_nil⟩⟩⟩⟩⟩⟩⟩) (show 2 * w.n + 260 ≤ 400 - 1 - 0 - 1 by omega) (show 12 * w.n + 1560 ≤ 2400 - 6 - 0 - 6 by omega) (L1 w.n 0 _ _ (by omega) (Nat.le_refl _) (Nat.le_refl _))
