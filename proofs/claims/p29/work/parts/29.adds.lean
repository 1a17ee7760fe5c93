/-! THE PROGRAM, 10: the calls that add -/
def clI (kd ld rk sr hd : Int32) : Nat → Int32 := (pI (pI (pI (pI (pI (pI (pI (pI (pI (pI (pI (fun _ => 0) 6 0) 7 0) 8 0) 11 0) 12 (-1)) 17 0) 0 kd) 1 ld) 2 rk) 3 sr) 4 hd)
theorem clI_eq {kd ld rk sr hd : Int32} : (pI (pI (pI (pI (pI (pI (pI (pI (pI (pI (pI (fun _ => 0) 6 0) 7 0) 8 0) 11 0) 12 (-1)) 17 0) 0 kd) 1 ld) 2 rk) 3 sr) 4 hd) = clI kd ld rk sr hd := rfl
theorem clJ_eq : (pJ (pJ (pJ (pJ (pJ (pJ (fun _ => 0) 5 0) 9 0) 10 0) 13 0) 14 0) 15 0) = (fun _ => 0 : Nat → Int64) := by
  funext j
  simp only [pJ]
  repeat' split
  all_goals rfl
theorem clI_17 {kd ld rk sr hd : Int32} : 0 ≤ clI kd ld rk sr hd 17 := Int32.le_refl 0
set_option maxHeartbeats 4000000 in
theorem m_X0_init {tm : Nat × Nat} {S : Sto} {w : CAd} {c : CC} {a : Nat} {kd ld rk sr hd : Int32} (hW : CW tm S w c) (hm : w.m = w.n) (ha : sK S a = 99) (hz : hd = 0 ∨ hd = 1) : Ev tm M_X0_init [.ref a, .int kd, .int ld, .int rk, .int sr, .int hd] (sal S a 1 0) (fun o S1 => o = .inl none ∧ ∃ pa, CW tm S1 (w.newc a pa) (c.newc w.n (clI kd ld rk sr hd) (fun _ => 0)) ∧ FrC S S1) := by
  have hN : NC S (sal S a 1 0) a 1 (fun _ => 0) (fun _ => 0) := NC.start
  refine ev_in ok_X0_init (Nat.le_of_ble_eq_true rfl) ?_
  refine s_aloadn dX0_init_0 rfl rfl ?_
  refine s_co (n := 0) dX0_init_1 rfl (by decide) (by decide) (by decide) ?_
  refine s_aloadn dX0_init_4 rfl rfl ?_
  refine s_lconst (v := 0) dX0_init_5 (by decide) ?_
  refine s_putJ (n := 28) dX0_init_6 rfl hN.2.1 (Or.inl rfl) (fun _ _ _ => rfl) rfl rfl ?_
  have hN1 := hN.J (k := 5) (v := 0)
  refine s_aloadn dX0_init_9 rfl rfl ?_
  refine s_iconst (v := 0) dX0_init_10 (by decide) ?_
  refine s_putI (n := 30) dX0_init_11 rfl hN1.2.1 (Or.inl rfl) (fun _ _ _ => rfl) rfl rfl ?_
  have hN2 := hN1.I (k := 6) (v := 0)
  refine s_aloadn dX0_init_14 rfl rfl ?_
  refine s_iconst (v := 0) dX0_init_15 (by decide) ?_
  refine s_putI (n := 31) dX0_init_16 rfl hN2.2.1 (Or.inl rfl) (fun _ _ _ => rfl) rfl rfl ?_
  have hN3 := hN2.I (k := 7) (v := 0)
  refine s_aloadn dX0_init_19 rfl rfl ?_
  refine s_iconst (v := 0) dX0_init_20 (by decide) ?_
  refine s_putI (n := 33) dX0_init_21 rfl hN3.2.1 (Or.inl rfl) (fun _ _ _ => rfl) rfl rfl ?_
  have hN4 := hN3.I (k := 8) (v := 0)
  refine s_aloadn dX0_init_24 rfl rfl ?_
  refine s_lconst (v := 0) dX0_init_25 (by decide) ?_
  refine s_putJ (n := 35) dX0_init_26 rfl hN4.2.1 (Or.inl rfl) (fun _ _ _ => rfl) rfl rfl ?_
  have hN5 := hN4.J (k := 9) (v := 0)
  refine s_aloadn dX0_init_29 rfl rfl ?_
  refine s_lconst (v := 0) dX0_init_30 (by decide) ?_
  refine s_putJ (n := 37) dX0_init_31 rfl hN5.2.1 (Or.inl rfl) (fun _ _ _ => rfl) rfl rfl ?_
  have hN6 := hN5.J (k := 10) (v := 0)
  refine s_aloadn dX0_init_34 rfl rfl ?_
  refine s_iconst (v := 0) dX0_init_35 (by decide) ?_
  refine s_putI (n := 39) dX0_init_36 rfl hN6.2.1 (Or.inl rfl) (fun _ _ _ => rfl) rfl rfl ?_
  have hN7 := hN6.I (k := 11) (v := 0)
  refine s_aloadn dX0_init_39 rfl rfl ?_
  refine s_iconst (v := (-1)) dX0_init_40 (by decide) ?_
  refine s_putI (n := 41) dX0_init_41 rfl hN7.2.1 (Or.inl rfl) (fun _ _ _ => rfl) rfl rfl ?_
  have hN8 := hN7.I (k := 12) (v := (-1))
  refine s_aloadn dX0_init_44 rfl rfl ?_
  refine s_lconst (v := 0) dX0_init_45 (by decide) ?_
  refine s_putJ (n := 43) dX0_init_46 rfl hN8.2.1 (Or.inl rfl) (fun _ _ _ => rfl) rfl rfl ?_
  have hN9 := hN8.J (k := 13) (v := 0)
  refine s_aloadn dX0_init_49 rfl rfl ?_
  refine s_lconst (v := 0) dX0_init_50 (by decide) ?_
  refine s_putJ (n := 45) dX0_init_51 rfl hN9.2.1 (Or.inl rfl) (fun _ _ _ => rfl) rfl rfl ?_
  have hN10 := hN9.J (k := 14) (v := 0)
  refine s_aloadn dX0_init_54 rfl rfl ?_
  refine s_lconst (v := 0) dX0_init_55 (by decide) ?_
  refine s_putJ (n := 47) dX0_init_56 rfl hN10.2.1 (Or.inl rfl) (fun _ _ _ => rfl) rfl rfl ?_
  have hN11 := hN10.J (k := 15) (v := 0)
  refine s_aloadn dX0_init_59 rfl rfl ?_
  refine s_bipush (v := 70) dX0_init_60 (by decide) ?_
  refine s_newj (N := 70) (kd := 7) dX0_init_62 (Or.inl rfl) (by decide) (by decide) (by decide) (by decide) (by decide) (fun pa hpa => ?_)
  have hne : a ≠ pa := fun e => by rw [← e, hN11.2.1] at hpa; cases hpa
  have hpa0 : sK S pa = 99 := (hN11.1 pa (Ne.symm hne)).1.symm.trans hpa
  refine s_putR (n := 49) dX0_init_64 rfl ((up1_ne hne).trans hN11.2.1) (Or.inr ⟨rfl, rfl, rfl⟩) (fun _ _ _ => rfl) rfl rfl ?_
  have hN12 := hN11.arr hpa
  refine s_aloadn dX0_init_67 rfl rfl ?_
  refine s_iconst (v := 0) dX0_init_68 (by decide) ?_
  refine s_putI (n := 50) dX0_init_69 rfl hN12.2.1 (Or.inl rfl) (fun _ _ _ => rfl) rfl rfl ?_
  have hN13 := hN12.I (k := 17) (v := 0)
  refine s_aloadn dX0_init_72 rfl rfl ?_
  refine s_iloadn dX0_init_73 rfl rfl ?_
  refine s_putI (n := 18) dX0_init_74 rfl hN13.2.1 (Or.inr ⟨rfl, rfl, rfl⟩) (fun _ _ _ => rfl) rfl rfl ?_
  have hN14 := hN13.I (k := 0) (v := kd)
  refine s_aloadn dX0_init_77 rfl rfl ?_
  refine s_iloadn dX0_init_78 rfl rfl ?_
  refine s_putI (n := 20) dX0_init_79 rfl hN14.2.1 (Or.inr ⟨rfl, rfl, rfl⟩) (fun _ _ _ => rfl) rfl rfl ?_
  have hN15 := hN14.I (k := 1) (v := ld)
  refine s_aloadn dX0_init_82 rfl rfl ?_
  refine s_iloadn dX0_init_83 rfl rfl ?_
  refine s_putI (n := 22) dX0_init_84 rfl hN15.2.1 (Or.inr ⟨rfl, rfl, rfl⟩) (fun _ _ _ => rfl) rfl rfl ?_
  have hN16 := hN15.I (k := 2) (v := rk)
  refine s_aloadn dX0_init_87 rfl rfl ?_
  refine s_iload dX0_init_88 rfl ?_
  refine s_putI (n := 24) dX0_init_90 rfl hN16.2.1 (Or.inr ⟨rfl, rfl, rfl⟩) (fun _ _ _ => rfl) rfl rfl ?_
  have hN17 := hN16.I (k := 3) (v := sr)
  refine s_aloadn dX0_init_93 rfl rfl ?_
  refine s_iload dX0_init_94 rfl ?_
  refine s_putI (n := 26) dX0_init_96 rfl hN17.2.1 (Or.inl rfl) (fun _ _ _ => rfl) (nr_bool hz) (ft_bool hz) ?_
  have hN18 := hN17.I (k := 4) (v := hd)
  exact s_retv dX0_init_99 rfl ⟨rfl, pa, hW.newc hm (by rw [clI_eq, clJ_eq] at hN18; exact hN18) ha (hpa0) clI_17 hz, FrC.of (ND.fr hN18 ha (hpa0))⟩
def ofI (ct cp yr : Int32) : Nat → Int32 := (pI (pI (pI (fun _ => 0) 0 ct) 1 cp) 2 yr)
theorem m_X1_init {tm : Nat × Nat} {S : Sto} {a : Nat} {ct cp yr : Int32} : Ev tm M_X1_init [.ref a, .int ct, .int cp, .int yr] (sal S a 2 0) (fun o S1 => o = .inl none ∧ NC S S1 a 2 (ofI ct cp yr) (pJ (fun _ => 0) 3 0)) := by
  have hN : NC S (sal S a 2 0) a 2 (fun _ => 0) (fun _ => 0) := NC.start
  refine ev_in ok_X1_init (Nat.le_of_ble_eq_true rfl) ?_
  refine s_aloadn dX1_init_0 rfl rfl ?_
  refine s_co (n := 1) dX1_init_1 rfl (by decide) (by decide) (by decide) ?_
  refine s_aloadn dX1_init_4 rfl rfl ?_
  refine s_lconst (v := 0) dX1_init_5 (by decide) ?_
  refine s_putJ (n := 56) dX1_init_6 rfl hN.2.1 (Or.inl rfl) (fun _ _ _ => rfl) rfl rfl ?_
  have hN1 := hN.J (k := 3) (v := 0)
  refine s_aloadn dX1_init_9 rfl rfl ?_
  refine s_iloadn dX1_init_10 rfl rfl ?_
  refine s_putI (n := 51) dX1_init_11 rfl hN1.2.1 (Or.inr ⟨rfl, rfl, rfl⟩) (fun _ _ _ => rfl) rfl rfl ?_
  have hN2 := hN1.I (k := 0) (v := ct)
  refine s_aloadn dX1_init_14 rfl rfl ?_
  refine s_iloadn dX1_init_15 rfl rfl ?_
  refine s_putI (n := 52) dX1_init_16 rfl hN2.2.1 (Or.inr ⟨rfl, rfl, rfl⟩) (fun _ _ _ => rfl) rfl rfl ?_
  have hN3 := hN2.I (k := 1) (v := cp)
  refine s_aloadn dX1_init_19 rfl rfl ?_
  refine s_iloadn dX1_init_20 rfl rfl ?_
  refine s_putI (n := 54) dX1_init_21 rfl hN3.2.1 (Or.inr ⟨rfl, rfl, rfl⟩) (fun _ _ _ => rfl) rfl rfl ?_
  have hN4 := hN3.I (k := 2) (v := yr)
  exact s_retv dX1_init_24 rfl ⟨rfl, hN4⟩
def thI (wo : Int32) : Nat → Int32 := (pI (pI (fun _ => 0) 1 0) 0 wo)
theorem m_X2_init {tm : Nat × Nat} {S : Sto} {a : Nat} {wo : Int32} : Ev tm M_X2_init [.ref a, .int wo] (sal S a 3 0) (fun o S1 => o = .inl none ∧ NC S S1 a 3 (thI wo) (fun _ => 0)) := by
  have hN : NC S (sal S a 3 0) a 3 (fun _ => 0) (fun _ => 0) := NC.start
  refine ev_in ok_X2_init (Nat.le_of_ble_eq_true rfl) ?_
  refine s_aloadn dX2_init_0 rfl rfl ?_
  refine s_co (n := 2) dX2_init_1 rfl (by decide) (by decide) (by decide) ?_
  refine s_aloadn dX2_init_4 rfl rfl ?_
  refine s_iconst (v := 0) dX2_init_5 (by decide) ?_
  refine s_putI (n := 59) dX2_init_6 rfl hN.2.1 (Or.inl rfl) (fun _ _ _ => rfl) (nr_bool (by decide)) (ft_bool (by decide)) ?_
  have hN1 := hN.I (k := 1) (v := 0)
  refine s_aloadn dX2_init_9 rfl rfl ?_
  refine s_iloadn dX2_init_10 rfl rfl ?_
  refine s_putI (n := 57) dX2_init_11 rfl hN1.2.1 (Or.inr ⟨rfl, rfl, rfl⟩) (fun _ _ _ => rfl) rfl rfl ?_
  have hN2 := hN1.I (k := 0) (v := wo)
  exact s_retv dX2_init_14 rfl ⟨rfl, hN2⟩
def PA (tm : Nat × Nat) (th : Nat) (oa : Nat → Nat) (no nt : Nat) (S0 : Sto) (F : Out × Nat × CC) : Out → Sto → Prop := fun o S1 => o = F.1 ∧ ∃ w' : CAd, (w'.th = th ∧ w'.oa = oa ∧ w'.no = no ∧ w'.nt = nt) ∧ w'.n = F.2.1 ∧ w'.m = w'.n ∧ CW tm S1 w' F.2.2 ∧ FrC S0 S1
theorem PA.of {tm : Nat × Nat} {th : Nat} {oa : Nat → Nat} {no nt : Nat} {S0 S1 : Sto} {F : Out × Nat × CC} {x : Out} {n : Nat} {G : CC} {w' : CAd} (e : F = (x, n, G)) (hw : w'.th = th ∧ w'.oa = oa ∧ w'.no = no ∧ w'.nt = nt) (h1 : w'.n = n) (h2 : w'.m = w'.n) (h : CW tm S1 w' G) (f : FrC S0 S1) : PA tm th oa no nt S0 F x S1 := by
  subst e
  exact ⟨rfl, w', hw, h1, h2, h, f⟩
def f_X0_setTerms (c : CC) (i : Nat) (p : Int64) (q d : Int32) : CC := (((c.pcj i 5 p).pci i 6 q).pci i 7 d)
set_option maxHeartbeats 4000000 in
theorem m_X0_setTerms {tm : Nat × Nat} {S : Sto} {w : CAd} {c : CC} {i : Nat} {p : Int64} {q d : Int32} (hW : CW tm S w c) (hi : i < w.m) : Ev tm M_X0_setTerms [.ref (w.ca i), .long p, .int q, .int d] S (PV tm w S (f_X0_setTerms c i p q d)) := by
  have hF : FrC S S := FrC.rf
  refine ev_in ok_X0_setTerms (Nat.le_of_ble_eq_true rfl) ?_
  refine s_aloadn dX0_setTerms_0 rfl rfl ?_
  refine s_lloadn dX0_setTerms_1 rfl rfl ?_
  refine s_putJ (n := 28) dX0_setTerms_2 rfl (hW.cK _ hi) (Or.inl rfl) (fun _ _ _ => rfl) rfl rfl ?_
  have hW1 := hW.pcj hi (k := 5) (v := p)
  have hF1 := hF.uJ (k := 5) (v := p) (hW.cK _ hi) (kd := 1) (by decide)
  refine s_aloadn dX0_setTerms_5 rfl rfl ?_
  refine s_iloadn dX0_setTerms_6 rfl rfl ?_
  refine s_putI (n := 30) dX0_setTerms_7 rfl (hW1.cK _ hi) (Or.inl rfl) (fun _ _ _ => rfl) rfl rfl ?_
  have hW2 := hW1.pci hi (fun e => absurd e (by decide)) (fun e => absurd e (by decide)) (k := 6) (v := q)
  have hF2 := hF1.uI (k := 6) (v := q) (hW1.cK _ hi) (kd := 1) (by decide)
  refine s_aloadn dX0_setTerms_10 rfl rfl ?_
  refine s_iload dX0_setTerms_11 rfl ?_
  refine s_putI (n := 31) dX0_setTerms_13 rfl (hW2.cK _ hi) (Or.inl rfl) (fun _ _ _ => rfl) rfl rfl ?_
  have hW3 := hW2.pci hi (fun e => absurd e (by decide)) (fun e => absurd e (by decide)) (k := 7) (v := d)
  have hF3 := hF2.uI (k := 7) (v := d) (hW2.cK _ hi) (kd := 1) (by decide)
  exact s_retv dX0_setTerms_16 rfl (PV.of (F := f_X0_setTerms c i p q d) (by unfold f_X0_setTerms; rfl) hW3 hF3)
def t_X3_claim (n : Nat) (c : CC) (p q y : Int32) : Out × Nat × CC := (.inl (some (.int ((nI (n + 1)) - 1))), n + 1, (f_X0_setTerms c n ((p : Int32).toInt64) q ((c.ti 3) + y)))
set_option maxHeartbeats 4000000 in
theorem tm_X3_claim {tm : Nat × Nat} {S S0 : Sto} {w : CAd} {c : CC} {p q y : Int32} (hW : CW tm S w c) (hm : w.m = w.n + 1) (hn : w.n < 40)  (hF : FrC S0 S) : Wp (Ev tm) tm M_X3_claim (PA tm w.th w.oa w.no w.nt S0 (t_X3_claim w.n c p q y)) 89 [(0, .ref w.th), (3, .int p), (4, .int q), (5, .int y)] [.ref (w.ca w.n)] 1 100 S := by
  refine s_astore dX3_claim_89 (by decide) ?_
  refine s_aload dX3_claim_91 rfl ?_
  refine s_iloadn dX3_claim_93 rfl rfl ?_
  refine s_i2l dX3_claim_94 ?_
  refine s_iload dX3_claim_95 rfl ?_
  refine s_aloadn dX3_claim_97 rfl rfl ?_
  refine s_get (v := .int (c.ti 3)) (n := 7) dX3_claim_98 rfl hW.th (congrArg Value.int (congrFun hW.ti 3)) ?_
  refine s_iload dX3_claim_101 rfl ?_
  refine s_iadd dX3_claim_103 ?_
  refine s_cv3G (n := 8) dX3_claim_104 rfl (kv (hW.cK _ (show w.n < w.m by omega)) (by decide) rfl) rfl (by decide) (by decide) (by decide) (by decide) (Nat.le_of_ble_eq_true rfl) (m_X0_setTerms hW (show w.n < w.m by omega)) (fun r1 S1 hr1 => ?_) (fun x S2 hr => by obtain ⟨e, -⟩ := hr; cases e)
  obtain ⟨e1, hW1, hG1⟩ := hr1
  cases e1
  have hF1 := hF.tr hG1
  refine s_aloadn dX3_claim_107 rfl rfl ?_
  refine s_getR (n := 4) dX3_claim_108 rfl hW1.th (fun _ _ _ => rfl) hW1.ral ?_
  refine s_aload dX3_claim_111 rfl ?_
  refine s_cv1G (n := 9) dX3_claim_113 rfl (kv hW1.alK (by decide) rfl) rfl (by decide) (by decide) (by decide) (by decide) (Nat.le_of_ble_eq_true rfl) (m_add hW1.lc (Nat.le_of_lt hn) (hW1.cK _ (by omega)) (by decide) (by decide)) (fun r2 S2 hr2 => ?_) (fun x S2 hr => by obtain ⟨e, -⟩ := hr; cases e)
  obtain ⟨e2, hA2⟩ := hr2
  cases e2
  have hW2 := hW1.addc hm hn hA2
  have hF2 := hF1.tr (FrC.add hW1.lc hA2)
  refine s_pop dX3_claim_116 rfl ?_
  refine s_aloadn dX3_claim_117 rfl rfl ?_
  refine s_getR (n := 4) dX3_claim_118 rfl hW2.th (fun _ _ _ => rfl) hW2.ral ?_
  refine s_cv0R (n := 3) dX3_claim_121 rfl (kv hW2.alK (by decide) rfl) rfl (by decide) (by decide) (by decide) (by decide) (Nat.le_of_ble_eq_true rfl) (m_size hW2.lc) ?_
  refine s_iconst (v := 1) dX3_claim_124 (by decide) ?_
  refine s_isub dX3_claim_125 ?_
  exact s_reti dX3_claim_126 rfl rfl (PA.of (w' := w.addc) (F := t_X3_claim w.n c p q y) (x := .inl (some (.int ((nI (w.n + 1)) - 1)))) (n := w.n + 1) (by unfold t_X3_claim; rfl) ⟨rfl, rfl, rfl, rfl⟩ rfl hm hW2 hF2)
def t_X3_payTranche (n : Nat) (c : CC) : Out × Nat × CC := (.inl none, n + 1, (((f_X0_setTerms c n (((c.ti 11) : Int32).toInt64) 300 ((c.ti 3) + 5)).ptj 4 (((f_X0_setTerms c n (((c.ti 11) : Int32).toInt64) 300 ((c.ti 3) + 5)).tj 4) + ((((f_X0_setTerms c n (((c.ti 11) : Int32).toInt64) 300 ((c.ti 3) + 5)).ti 11) : Int32).toInt64))).pti 13 (((f_X0_setTerms c n (((c.ti 11) : Int32).toInt64) 300 ((c.ti 3) + 5)).ti 13) - 1)))
set_option maxHeartbeats 4000000 in
theorem tm_X3_payTranche {tm : Nat × Nat} {S S0 : Sto} {w : CAd} {c : CC}  (hW : CW tm S w c) (hm : w.m = w.n + 1) (hn : w.n < 40)  (hF : FrC S0 S) : Wp (Ev tm) tm M_X3_payTranche (PA tm w.th w.oa w.no w.nt S0 (t_X3_payTranche w.n c)) 13 [(0, .ref w.th)] [.ref (w.ca w.n)] 1 100 S := by
  refine s_astoren dX3_payTranche_13 rfl (by decide) ?_
  refine s_aloadn dX3_payTranche_14 rfl rfl ?_
  refine s_aloadn dX3_payTranche_15 rfl rfl ?_
  refine s_get (v := .int (c.ti 11)) (n := 15) dX3_payTranche_16 rfl hW.th (congrArg Value.int (congrFun hW.ti 11)) ?_
  refine s_i2l dX3_payTranche_19 ?_
  refine s_sipush (v := 300) dX3_payTranche_20 (by decide) ?_
  refine s_aloadn dX3_payTranche_23 rfl rfl ?_
  refine s_get (v := .int (c.ti 3)) (n := 7) dX3_payTranche_24 rfl hW.th (congrArg Value.int (congrFun hW.ti 3)) ?_
  refine s_iconst (v := 5) dX3_payTranche_27 (by decide) ?_
  refine s_iadd dX3_payTranche_28 ?_
  refine s_cv3G (n := 8) dX3_payTranche_29 rfl (kv (hW.cK _ (show w.n < w.m by omega)) (by decide) rfl) rfl (by decide) (by decide) (by decide) (by decide) (Nat.le_of_ble_eq_true rfl) (m_X0_setTerms hW (show w.n < w.m by omega)) (fun r1 S1 hr1 => ?_) (fun x S2 hr => by obtain ⟨e, -⟩ := hr; cases e)
  obtain ⟨e1, hW1, hG1⟩ := hr1
  cases e1
  have hF1 := hF.tr hG1
  refine s_aloadn dX3_payTranche_32 rfl rfl ?_
  refine s_getR (n := 4) dX3_payTranche_33 rfl hW1.th (fun _ _ _ => rfl) hW1.ral ?_
  refine s_aloadn dX3_payTranche_36 rfl rfl ?_
  refine s_cv1G (n := 9) dX3_payTranche_37 rfl (kv hW1.alK (by decide) rfl) rfl (by decide) (by decide) (by decide) (by decide) (Nat.le_of_ble_eq_true rfl) (m_add hW1.lc (Nat.le_of_lt hn) (hW1.cK _ (by omega)) (by decide) (by decide)) (fun r2 S2 hr2 => ?_) (fun x S2 hr => by obtain ⟨e, -⟩ := hr; cases e)
  obtain ⟨e2, hA2⟩ := hr2
  cases e2
  have hW2 := hW1.addc hm hn hA2
  have hF2 := hF1.tr (FrC.add hW1.lc hA2)
  refine s_pop dX3_payTranche_40 rfl ?_
  refine s_aloadn dX3_payTranche_41 rfl rfl ?_
  refine s_dup dX3_payTranche_42 rfl ?_
  refine s_get (v := .long ((f_X0_setTerms c w.n (((c.ti 11) : Int32).toInt64) 300 ((c.ti 3) + 5)).tj 4)) (n := 8) dX3_payTranche_43 rfl hW2.th (congrArg Value.long (congrFun hW2.tj 4)) ?_
  refine s_aloadn dX3_payTranche_46 rfl rfl ?_
  refine s_get (v := .int ((f_X0_setTerms c w.n (((c.ti 11) : Int32).toInt64) 300 ((c.ti 3) + 5)).ti 11)) (n := 15) dX3_payTranche_47 rfl hW2.th (congrArg Value.int (congrFun hW2.ti 11)) ?_
  refine s_i2l dX3_payTranche_50 ?_
  refine s_ladd dX3_payTranche_51 ?_
  refine s_putJ (n := 8) dX3_payTranche_52 rfl hW2.th (Or.inl rfl) (fun _ _ _ => rfl) rfl rfl ?_
  have hW3 := hW2.ptj (k := 4) (v := ((f_X0_setTerms c w.n (((c.ti 11) : Int32).toInt64) 300 ((c.ti 3) + 5)).tj 4) + ((((f_X0_setTerms c w.n (((c.ti 11) : Int32).toInt64) 300 ((c.ti 3) + 5)).ti 11) : Int32).toInt64))
  have hF3 := hF2.uJ (k := 4) (v := ((f_X0_setTerms c w.n (((c.ti 11) : Int32).toInt64) 300 ((c.ti 3) + 5)).tj 4) + ((((f_X0_setTerms c w.n (((c.ti 11) : Int32).toInt64) 300 ((c.ti 3) + 5)).ti 11) : Int32).toInt64)) hW2.th (kd := 4) (by decide)
  refine s_aloadn dX3_payTranche_55 rfl rfl ?_
  refine s_dup dX3_payTranche_56 rfl ?_
  refine s_get (v := .int ((f_X0_setTerms c w.n (((c.ti 11) : Int32).toInt64) 300 ((c.ti 3) + 5)).ti 13)) (n := 17) dX3_payTranche_57 rfl hW3.th (congrArg Value.int (congrFun hW3.ti 13)) ?_
  refine s_iconst (v := 1) dX3_payTranche_60 (by decide) ?_
  refine s_isub dX3_payTranche_61 ?_
  refine s_putI (n := 17) dX3_payTranche_62 rfl hW3.th (Or.inl rfl) (fun _ _ _ => rfl) rfl rfl ?_
  have hW4 := hW3.pti (k := 13) (v := ((f_X0_setTerms c w.n (((c.ti 11) : Int32).toInt64) 300 ((c.ti 3) + 5)).ti 13) - 1)
  have hF4 := hF3.uI (k := 13) (v := ((f_X0_setTerms c w.n (((c.ti 11) : Int32).toInt64) 300 ((c.ti 3) + 5)).ti 13) - 1) hW3.th (kd := 4) (by decide)
  exact s_retv dX3_payTranche_65 rfl (PA.of (w' := w.addc) (F := t_X3_payTranche w.n c) (n := w.n + 1) (by unfold t_X3_payTranche; rfl) ⟨rfl, rfl, rfl, rfl⟩ rfl hm hW4 hF4)
def t_X3_swap (n : Nat) (c : CC) (i : Nat) (k : Int32) (j : Nat) : Out × Nat × CC := (.inl none, n + 1, (((((((f_X0_setTerms c n (i_X1_principalFor c j i) (c.oi j 1) ((c.ti 3) + (c.oi j 2))).pci n 12 k).pcj n 13 (f_X0_worth ((f_X0_setTerms c n (i_X1_principalFor c j i) (c.oi j 1) ((c.ti 3) + (c.oi j 2))).pci n 12 k) i ((f_X0_setTerms c n (i_X1_principalFor c j i) (c.oi j 1) ((c.ti 3) + (c.oi j 2))).ti 3) ((f_X0_setTerms c n (i_X1_principalFor c j i) (c.oi j 1) ((c.ti 3) + (c.oi j 2))).ti 8))).pcj n 14 (f_X0_worth (((f_X0_setTerms c n (i_X1_principalFor c j i) (c.oi j 1) ((c.ti 3) + (c.oi j 2))).pci n 12 k).pcj n 13 (f_X0_worth ((f_X0_setTerms c n (i_X1_principalFor c j i) (c.oi j 1) ((c.ti 3) + (c.oi j 2))).pci n 12 k) i ((f_X0_setTerms c n (i_X1_principalFor c j i) (c.oi j 1) ((c.ti 3) + (c.oi j 2))).ti 3) ((f_X0_setTerms c n (i_X1_principalFor c j i) (c.oi j 1) ((c.ti 3) + (c.oi j 2))).ti 8))) n ((f_X0_setTerms c n (i_X1_principalFor c j i) (c.oi j 1) ((c.ti 3) + (c.oi j 2))).ti 3) ((f_X0_setTerms c n (i_X1_principalFor c j i) (c.oi j 1) ((c.ti 3) + (c.oi j 2))).ti 8))).pcj n 10 (((((f_X0_setTerms c n (i_X1_principalFor c j i) (c.oi j 1) ((c.ti 3) + (c.oi j 2))).pci n 12 k).pcj n 13 (f_X0_worth ((f_X0_setTerms c n (i_X1_principalFor c j i) (c.oi j 1) ((c.ti 3) + (c.oi j 2))).pci n 12 k) i ((f_X0_setTerms c n (i_X1_principalFor c j i) (c.oi j 1) ((c.ti 3) + (c.oi j 2))).ti 3) ((f_X0_setTerms c n (i_X1_principalFor c j i) (c.oi j 1) ((c.ti 3) + (c.oi j 2))).ti 8))).pcj n 14 (f_X0_worth (((f_X0_setTerms c n (i_X1_principalFor c j i) (c.oi j 1) ((c.ti 3) + (c.oi j 2))).pci n 12 k).pcj n 13 (f_X0_worth ((f_X0_setTerms c n (i_X1_principalFor c j i) (c.oi j 1) ((c.ti 3) + (c.oi j 2))).pci n 12 k) i ((f_X0_setTerms c n (i_X1_principalFor c j i) (c.oi j 1) ((c.ti 3) + (c.oi j 2))).ti 3) ((f_X0_setTerms c n (i_X1_principalFor c j i) (c.oi j 1) ((c.ti 3) + (c.oi j 2))).ti 8))) n ((f_X0_setTerms c n (i_X1_principalFor c j i) (c.oi j 1) ((c.ti 3) + (c.oi j 2))).ti 3) ((f_X0_setTerms c n (i_X1_principalFor c j i) (c.oi j 1) ((c.ti 3) + (c.oi j 2))).ti 8))).cj i 10)).pcj i 10 0).pci i 8 2))
set_option maxHeartbeats 4000000 in
theorem tm_X3_swap {tm : Nat × Nat} {S S0 : Sto} {w : CAd} {c : CC} {i : Nat} {k : Int32} {j : Nat} (hW : CW tm S w c) (hm : w.m = w.n + 1) (hn : w.n < 40) (hi : i < w.m) (hj : j < w.no) (hF : FrC S0 S) : Wp (Ev tm) tm M_X3_swap (PA tm w.th w.oa w.no w.nt S0 (t_X3_swap w.n c i k j)) 27 [(0, .ref w.th), (1, .ref (w.ca i)), (2, .int k), (3, .ref (w.oa j))] [.ref (w.ca w.n)] 1 100 S := by
  refine s_astore dX3_swap_27 (by decide) ?_
  refine s_aload dX3_swap_29 rfl ?_
  refine s_aloadn dX3_swap_31 rfl rfl ?_
  refine s_aloadn dX3_swap_32 rfl rfl ?_
  refine s_cv1R (n := 27) dX3_swap_33 rfl (kv (hW.oK hj) (by decide) rfl) rfl (by decide) (by decide) (by decide) (by decide) (Nat.le_of_ble_eq_true rfl) (mi_X1_principalFor hW hj hi) ?_
  refine s_aloadn dX3_swap_36 rfl rfl ?_
  refine s_get (v := .int (c.oi j 1)) (n := 53) dX3_swap_37 rfl (hW.oK hj) (congrArg Value.int (congrFun (hW.oi _ hj) 1)) ?_
  refine s_aloadn dX3_swap_40 rfl rfl ?_
  refine s_get (v := .int (c.ti 3)) (n := 7) dX3_swap_41 rfl hW.th (congrArg Value.int (congrFun hW.ti 3)) ?_
  refine s_aloadn dX3_swap_44 rfl rfl ?_
  refine s_get (v := .int (c.oi j 2)) (n := 55) dX3_swap_45 rfl (hW.oK hj) (congrArg Value.int (congrFun (hW.oi _ hj) 2)) ?_
  refine s_iadd dX3_swap_48 ?_
  refine s_cv3G (n := 8) dX3_swap_49 rfl (kv (hW.cK _ (show w.n < w.m by omega)) (by decide) rfl) rfl (by decide) (by decide) (by decide) (by decide) (Nat.le_of_ble_eq_true rfl) (m_X0_setTerms hW (show w.n < w.m by omega)) (fun r1 S1 hr1 => ?_) (fun x S2 hr => by obtain ⟨e, -⟩ := hr; cases e)
  obtain ⟨e1, hW1, hG1⟩ := hr1
  cases e1
  have hF1 := hF.tr hG1
  refine s_aload dX3_swap_52 rfl ?_
  refine s_iloadn dX3_swap_54 rfl rfl ?_
  refine s_putI (n := 42) dX3_swap_55 rfl (hW1.cK _ (show w.n < w.m by omega)) (Or.inl rfl) (fun _ _ _ => rfl) rfl rfl ?_
  have hW2 := hW1.pci (show w.n < w.m by omega) (fun e => absurd e (by decide)) (fun e => absurd e (by decide)) (k := 12) (v := k)
  have hF2 := hF1.uI (k := 12) (v := k) (hW1.cK _ (show w.n < w.m by omega)) (kd := 1) (by decide)
  refine s_aload dX3_swap_58 rfl ?_
  refine s_aloadn dX3_swap_60 rfl rfl ?_
  refine s_aloadn dX3_swap_61 rfl rfl ?_
  refine s_get (v := .int ((f_X0_setTerms c w.n (i_X1_principalFor c j i) (c.oi j 1) ((c.ti 3) + (c.oi j 2))).ti 3)) (n := 7) dX3_swap_62 rfl hW2.th (congrArg Value.int (congrFun hW2.ti 3)) ?_
  refine s_aloadn dX3_swap_65 rfl rfl ?_
  refine s_get (v := .int ((f_X0_setTerms c w.n (i_X1_principalFor c j i) (c.oi j 1) ((c.ti 3) + (c.oi j 2))).ti 8)) (n := 12) dX3_swap_66 rfl hW2.th (congrArg Value.int (congrFun hW2.ti 8)) ?_
  refine s_cv2R (n := 28) dX3_swap_69 rfl (kv (hW2.cK _ hi) (by decide) rfl) rfl (by decide) (by decide) (by decide) (by decide) (Nat.le_of_ble_eq_true rfl) (m_X0_worth hW2 hi) ?_
  refine s_putJ (n := 44) dX3_swap_72 rfl (hW2.cK _ (show w.n < w.m by omega)) (Or.inl rfl) (fun _ _ _ => rfl) rfl rfl ?_
  have hW3 := hW2.pcj (show w.n < w.m by omega) (k := 13) (v := (f_X0_worth ((f_X0_setTerms c w.n (i_X1_principalFor c j i) (c.oi j 1) ((c.ti 3) + (c.oi j 2))).pci w.n 12 k) i ((f_X0_setTerms c w.n (i_X1_principalFor c j i) (c.oi j 1) ((c.ti 3) + (c.oi j 2))).ti 3) ((f_X0_setTerms c w.n (i_X1_principalFor c j i) (c.oi j 1) ((c.ti 3) + (c.oi j 2))).ti 8)))
  have hF3 := hF2.uJ (k := 13) (v := (f_X0_worth ((f_X0_setTerms c w.n (i_X1_principalFor c j i) (c.oi j 1) ((c.ti 3) + (c.oi j 2))).pci w.n 12 k) i ((f_X0_setTerms c w.n (i_X1_principalFor c j i) (c.oi j 1) ((c.ti 3) + (c.oi j 2))).ti 3) ((f_X0_setTerms c w.n (i_X1_principalFor c j i) (c.oi j 1) ((c.ti 3) + (c.oi j 2))).ti 8))) (hW2.cK _ (show w.n < w.m by omega)) (kd := 1) (by decide)
  refine s_aload dX3_swap_75 rfl ?_
  refine s_aload dX3_swap_77 rfl ?_
  refine s_aloadn dX3_swap_79 rfl rfl ?_
  refine s_get (v := .int ((f_X0_setTerms c w.n (i_X1_principalFor c j i) (c.oi j 1) ((c.ti 3) + (c.oi j 2))).ti 3)) (n := 7) dX3_swap_80 rfl hW3.th (congrArg Value.int (congrFun hW3.ti 3)) ?_
  refine s_aloadn dX3_swap_83 rfl rfl ?_
  refine s_get (v := .int ((f_X0_setTerms c w.n (i_X1_principalFor c j i) (c.oi j 1) ((c.ti 3) + (c.oi j 2))).ti 8)) (n := 12) dX3_swap_84 rfl hW3.th (congrArg Value.int (congrFun hW3.ti 8)) ?_
  refine s_cv2R (n := 28) dX3_swap_87 rfl (kv (hW3.cK _ (show w.n < w.m by omega)) (by decide) rfl) rfl (by decide) (by decide) (by decide) (by decide) (Nat.le_of_ble_eq_true rfl) (m_X0_worth hW3 (show w.n < w.m by omega)) ?_
  refine s_putJ (n := 46) dX3_swap_90 rfl (hW3.cK _ (show w.n < w.m by omega)) (Or.inl rfl) (fun _ _ _ => rfl) rfl rfl ?_
  have hW4 := hW3.pcj (show w.n < w.m by omega) (k := 14) (v := (f_X0_worth (((f_X0_setTerms c w.n (i_X1_principalFor c j i) (c.oi j 1) ((c.ti 3) + (c.oi j 2))).pci w.n 12 k).pcj w.n 13 (f_X0_worth ((f_X0_setTerms c w.n (i_X1_principalFor c j i) (c.oi j 1) ((c.ti 3) + (c.oi j 2))).pci w.n 12 k) i ((f_X0_setTerms c w.n (i_X1_principalFor c j i) (c.oi j 1) ((c.ti 3) + (c.oi j 2))).ti 3) ((f_X0_setTerms c w.n (i_X1_principalFor c j i) (c.oi j 1) ((c.ti 3) + (c.oi j 2))).ti 8))) w.n ((f_X0_setTerms c w.n (i_X1_principalFor c j i) (c.oi j 1) ((c.ti 3) + (c.oi j 2))).ti 3) ((f_X0_setTerms c w.n (i_X1_principalFor c j i) (c.oi j 1) ((c.ti 3) + (c.oi j 2))).ti 8)))
  have hF4 := hF3.uJ (k := 14) (v := (f_X0_worth (((f_X0_setTerms c w.n (i_X1_principalFor c j i) (c.oi j 1) ((c.ti 3) + (c.oi j 2))).pci w.n 12 k).pcj w.n 13 (f_X0_worth ((f_X0_setTerms c w.n (i_X1_principalFor c j i) (c.oi j 1) ((c.ti 3) + (c.oi j 2))).pci w.n 12 k) i ((f_X0_setTerms c w.n (i_X1_principalFor c j i) (c.oi j 1) ((c.ti 3) + (c.oi j 2))).ti 3) ((f_X0_setTerms c w.n (i_X1_principalFor c j i) (c.oi j 1) ((c.ti 3) + (c.oi j 2))).ti 8))) w.n ((f_X0_setTerms c w.n (i_X1_principalFor c j i) (c.oi j 1) ((c.ti 3) + (c.oi j 2))).ti 3) ((f_X0_setTerms c w.n (i_X1_principalFor c j i) (c.oi j 1) ((c.ti 3) + (c.oi j 2))).ti 8))) (hW3.cK _ (show w.n < w.m by omega)) (kd := 1) (by decide)
  refine s_aload dX3_swap_93 rfl ?_
  refine s_aloadn dX3_swap_95 rfl rfl ?_
  refine s_get (v := .long (((((f_X0_setTerms c w.n (i_X1_principalFor c j i) (c.oi j 1) ((c.ti 3) + (c.oi j 2))).pci w.n 12 k).pcj w.n 13 (f_X0_worth ((f_X0_setTerms c w.n (i_X1_principalFor c j i) (c.oi j 1) ((c.ti 3) + (c.oi j 2))).pci w.n 12 k) i ((f_X0_setTerms c w.n (i_X1_principalFor c j i) (c.oi j 1) ((c.ti 3) + (c.oi j 2))).ti 3) ((f_X0_setTerms c w.n (i_X1_principalFor c j i) (c.oi j 1) ((c.ti 3) + (c.oi j 2))).ti 8))).pcj w.n 14 (f_X0_worth (((f_X0_setTerms c w.n (i_X1_principalFor c j i) (c.oi j 1) ((c.ti 3) + (c.oi j 2))).pci w.n 12 k).pcj w.n 13 (f_X0_worth ((f_X0_setTerms c w.n (i_X1_principalFor c j i) (c.oi j 1) ((c.ti 3) + (c.oi j 2))).pci w.n 12 k) i ((f_X0_setTerms c w.n (i_X1_principalFor c j i) (c.oi j 1) ((c.ti 3) + (c.oi j 2))).ti 3) ((f_X0_setTerms c w.n (i_X1_principalFor c j i) (c.oi j 1) ((c.ti 3) + (c.oi j 2))).ti 8))) w.n ((f_X0_setTerms c w.n (i_X1_principalFor c j i) (c.oi j 1) ((c.ti 3) + (c.oi j 2))).ti 3) ((f_X0_setTerms c w.n (i_X1_principalFor c j i) (c.oi j 1) ((c.ti 3) + (c.oi j 2))).ti 8))).cj i 10)) (n := 38) dX3_swap_96 rfl (hW4.cK _ hi) (congrArg Value.long (congrFun (hW4.cj _ hi) 10)) ?_
  refine s_putJ (n := 38) dX3_swap_99 rfl (hW4.cK _ (show w.n < w.m by omega)) (Or.inl rfl) (fun _ _ _ => rfl) rfl rfl ?_
  have hW5 := hW4.pcj (show w.n < w.m by omega) (k := 10) (v := (((((f_X0_setTerms c w.n (i_X1_principalFor c j i) (c.oi j 1) ((c.ti 3) + (c.oi j 2))).pci w.n 12 k).pcj w.n 13 (f_X0_worth ((f_X0_setTerms c w.n (i_X1_principalFor c j i) (c.oi j 1) ((c.ti 3) + (c.oi j 2))).pci w.n 12 k) i ((f_X0_setTerms c w.n (i_X1_principalFor c j i) (c.oi j 1) ((c.ti 3) + (c.oi j 2))).ti 3) ((f_X0_setTerms c w.n (i_X1_principalFor c j i) (c.oi j 1) ((c.ti 3) + (c.oi j 2))).ti 8))).pcj w.n 14 (f_X0_worth (((f_X0_setTerms c w.n (i_X1_principalFor c j i) (c.oi j 1) ((c.ti 3) + (c.oi j 2))).pci w.n 12 k).pcj w.n 13 (f_X0_worth ((f_X0_setTerms c w.n (i_X1_principalFor c j i) (c.oi j 1) ((c.ti 3) + (c.oi j 2))).pci w.n 12 k) i ((f_X0_setTerms c w.n (i_X1_principalFor c j i) (c.oi j 1) ((c.ti 3) + (c.oi j 2))).ti 3) ((f_X0_setTerms c w.n (i_X1_principalFor c j i) (c.oi j 1) ((c.ti 3) + (c.oi j 2))).ti 8))) w.n ((f_X0_setTerms c w.n (i_X1_principalFor c j i) (c.oi j 1) ((c.ti 3) + (c.oi j 2))).ti 3) ((f_X0_setTerms c w.n (i_X1_principalFor c j i) (c.oi j 1) ((c.ti 3) + (c.oi j 2))).ti 8))).cj i 10))
  have hF5 := hF4.uJ (k := 10) (v := (((((f_X0_setTerms c w.n (i_X1_principalFor c j i) (c.oi j 1) ((c.ti 3) + (c.oi j 2))).pci w.n 12 k).pcj w.n 13 (f_X0_worth ((f_X0_setTerms c w.n (i_X1_principalFor c j i) (c.oi j 1) ((c.ti 3) + (c.oi j 2))).pci w.n 12 k) i ((f_X0_setTerms c w.n (i_X1_principalFor c j i) (c.oi j 1) ((c.ti 3) + (c.oi j 2))).ti 3) ((f_X0_setTerms c w.n (i_X1_principalFor c j i) (c.oi j 1) ((c.ti 3) + (c.oi j 2))).ti 8))).pcj w.n 14 (f_X0_worth (((f_X0_setTerms c w.n (i_X1_principalFor c j i) (c.oi j 1) ((c.ti 3) + (c.oi j 2))).pci w.n 12 k).pcj w.n 13 (f_X0_worth ((f_X0_setTerms c w.n (i_X1_principalFor c j i) (c.oi j 1) ((c.ti 3) + (c.oi j 2))).pci w.n 12 k) i ((f_X0_setTerms c w.n (i_X1_principalFor c j i) (c.oi j 1) ((c.ti 3) + (c.oi j 2))).ti 3) ((f_X0_setTerms c w.n (i_X1_principalFor c j i) (c.oi j 1) ((c.ti 3) + (c.oi j 2))).ti 8))) w.n ((f_X0_setTerms c w.n (i_X1_principalFor c j i) (c.oi j 1) ((c.ti 3) + (c.oi j 2))).ti 3) ((f_X0_setTerms c w.n (i_X1_principalFor c j i) (c.oi j 1) ((c.ti 3) + (c.oi j 2))).ti 8))).cj i 10)) (hW4.cK _ (show w.n < w.m by omega)) (kd := 1) (by decide)
  refine s_aloadn dX3_swap_102 rfl rfl ?_
  refine s_lconst (v := 0) dX3_swap_103 (by decide) ?_
  refine s_putJ (n := 38) dX3_swap_104 rfl (hW5.cK _ hi) (Or.inl rfl) (fun _ _ _ => rfl) rfl rfl ?_
  have hW6 := hW5.pcj hi (k := 10) (v := 0)
  have hF6 := hF5.uJ (k := 10) (v := 0) (hW5.cK _ hi) (kd := 1) (by decide)
  refine s_aloadn dX3_swap_107 rfl rfl ?_
  refine s_iconst (v := 2) dX3_swap_108 (by decide) ?_
  refine s_putI (n := 34) dX3_swap_109 rfl (hW6.cK _ hi) (Or.inl rfl) (fun _ _ _ => rfl) rfl rfl ?_
  have hW7 := hW6.pci hi (fun e => absurd e (by decide)) (fun e => absurd e (by decide)) (k := 8) (v := 2)
  have hF7 := hF6.uI (k := 8) (v := 2) (hW6.cK _ hi) (kd := 1) (by decide)
  refine s_aloadn dX3_swap_112 rfl rfl ?_
  refine s_getR (n := 4) dX3_swap_113 rfl hW7.th (fun _ _ _ => rfl) hW7.ral ?_
  refine s_aload dX3_swap_116 rfl ?_
  refine s_cv1G (n := 9) dX3_swap_118 rfl (kv hW7.alK (by decide) rfl) rfl (by decide) (by decide) (by decide) (by decide) (Nat.le_of_ble_eq_true rfl) (m_add hW7.lc (Nat.le_of_lt hn) (hW7.cK _ (by omega)) (by decide) (by decide)) (fun r8 S8 hr8 => ?_) (fun x S2 hr => by obtain ⟨e, -⟩ := hr; cases e)
  obtain ⟨e8, hA8⟩ := hr8
  cases e8
  have hW8 := hW7.addc hm hn hA8
  have hF8 := hF7.tr (FrC.add hW7.lc hA8)
  refine s_pop dX3_swap_121 rfl ?_
  exact s_retv dX3_swap_122 rfl (PA.of (w' := w.addc) (F := t_X3_swap w.n c i k j) (n := w.n + 1) (by unfold t_X3_swap; rfl) ⟨rfl, rfl, rfl, rfl⟩ rfl hm hW8 hF8)
