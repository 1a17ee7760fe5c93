/-! THE PROGRAM, 18: the model's calls -/
theorem isI {v l m : Int32} (h : ¬ f_X4_isIn v l m = 0) : l ≤ v ∧ v ≤ m := by
  unfold f_X4_isIn at h
  by_cases h1 : v < l
  · simp_all
  · by_cases h2 : v ≤ m
    · exact ⟨i32_le h1, h2⟩
    · exact absurd (by simp_all) h
theorem isN {v : Int32} {n : Nat} (hn : n ≤ 40) (h : ¬ f_X4_isIn v 0 (nI n - 1) = 0) : inr v n := by
  obtain ⟨h1, h2⟩ := isI h
  refine ⟨h1, ?_⟩
  rw [Int32.le_iff_toInt_le, Int32.toInt_sub, nI_toInt (by omega)] at h2
  rw [Int32.le_iff_toInt_le] at h1
  rw [Int32.lt_iff_toInt_lt, nI_toInt (by omega)]
  have e1 : (1 : Int32).toInt = 1 := rfl
  have h1 : (0 : Int) ≤ v.toInt := h1
  rw [e1, Int.bmod_eq_of_le (by omega) (by omega)] at h2
  omega
theorem isC {c : MC} {n : Nat} {v : Int32} (hc : c.ti 7 = nI n) (hn : n ≤ 40) (h : ¬ f_X4_isClaim c v = 0) : inr v n := by
  unfold f_X4_isClaim at h
  rw [hc] at h
  exact isN hn h
theorem isO {c : MC} {n : Nat} {v : Int32} (hc : c.ti 23 = nI n) (hn : n ≤ 12) (h : ¬ f_X4_isOffer c v = 0) : inr v n := by
  unfold f_X4_isOffer at h
  rw [hc] at h
  exact isN (by omega) h
theorem isT {c : MC} {n : Nat} {v : Int32} (hc : c.ti 31 = nI n) (hn : n ≤ 10) (h : ¬ f_X4_isIn v 0 (c.ti 31 - 1) = 0) : inr v n := by
  rw [hc] at h
  exact isN (by omega) h
theorem isK {v : Int32} (h : ¬ f_X4_isKind v = 0) : inr v 5 := by
  unfold f_X4_isKind at h
  exact isN (n := 5) (by decide) h
theorem isL {v : Int32} (h : ¬ f_X4_isIn v 0 7 = 0) : inr v 8 := isN (n := 8) (by decide) h
def NK (w : MAd) (S0 : Sto) (x : Int32) (F : MC) : Out → Sto → Prop := fun o S1 => o = .inl (some (.int x)) ∧ MW S1 w F ∧ FrM S0 S1
theorem m_holds0 {tm : Nat × Nat} {S : Sto} {w : MAd} {c : MC} (hW : MW S w c)  : Ev tm M_X4_holds [.ref w.mm, .int 0] S (NK w S 1 (c.pti 0 0)) := by
  refine ev_in ok_X4_holds (Nat.le_of_ble_eq_true rfl) ?_
  refine s_aloadn dX4_holds_0 rfl rfl ?_
  refine s_iloadn dX4_holds_1 rfl rfl ?_
  refine s_putI (n := 61) dX4_holds_2 rfl hW.mm (Or.inl rfl) (fun _ _ _ => rfl) rfl rfl ?_
  refine s_iloadn dX4_holds_5 rfl rfl ?_
  refine s_ifne (tgt := 13) dX4_holds_6 (by decide) (fun c => absurd rfl c) (fun _ => ?_)
  refine s_iconst (v := 1) dX4_holds_9 (by decide) ?_
  refine s_goto (tgt := 14) dX4_holds_10 (by decide) ?_
  exact s_reti dX4_holds_14 rfl rfl ⟨rfl, hW.pti, FrM.rf.uI hW.mm (by decide)⟩
theorem m_holdsP {tm : Nat × Nat} {S : Sto} {w : MAd} {c : MC} {p : Int32} (hW : MW S w c) (hp : ¬ p = 0) : Ev tm M_X4_holds [.ref w.mm, .int p] S (NK w S 0 (c.pti 0 p)) := by
  refine ev_in ok_X4_holds (Nat.le_of_ble_eq_true rfl) ?_
  refine s_aloadn dX4_holds_0 rfl rfl ?_
  refine s_iloadn dX4_holds_1 rfl rfl ?_
  refine s_putI (n := 61) dX4_holds_2 rfl hW.mm (Or.inl rfl) (fun _ _ _ => rfl) rfl rfl ?_
  refine s_iloadn dX4_holds_5 rfl rfl ?_
  refine s_ifne (tgt := 13) dX4_holds_6 (by decide) (fun _ => ?_) (fun c => absurd c hp)
  refine s_iconst (v := 0) dX4_holds_13 (by decide) ?_
  exact s_reti dX4_holds_14 rfl rfl ⟨rfl, hW.pti, FrM.rf.uI hW.mm (by decide)⟩
def f_X4_economy (c : MC) (g b x : Int32) : Int64 × MC := if (f_X4_isIn g (-1000) 1000) = 0 then (0, (c.pti 0 1)) else (if (f_X4_isIn b (-200) 200) = 0 then (0, (c.pti 0 1)) else (if (f_X4_isIn x 0 10000000) = 0 then (0, (c.pti 0 1)) else ((c.tj 2) + ((x : Int32).toInt64), ((((c.pti 0 0).pti 4 g).pti 5 b).ptj 2 ((c.tj 2) + ((x : Int32).toInt64))))))
set_option maxHeartbeats 4000000 in
theorem m_X4_economy {tm : Nat × Nat} {S : Sto} {w : MAd} {c : MC} {g b x : Int32} (hW : MW S w c)   : Ev tm M_X4_economy [.ref w.mm, .int g, .int b, .int x] S (NJ w S (f_X4_economy c g b x)) := by
  have hF : FrM S S := FrM.rf
  refine ev_in ok_X4_economy (Nat.le_of_ble_eq_true rfl) ?_
  refine s_aloadn dX4_economy_0 rfl rfl ?_
  refine s_iloadn dX4_economy_1 rfl rfl ?_
  refine s_sipush (v := (-1000)) dX4_economy_2 (by decide) ?_
  refine s_sipush (v := 1000) dX4_economy_5 (by decide) ?_
  refine s_cs3R (n := 23) dX4_economy_8 rfl rfl (by decide) (by decide) (by decide) (by decide) (Nat.le_of_ble_eq_true rfl) (m_X4_isIn) ?_
  refine s_ifeq (tgt := 41) dX4_economy_11 (by decide) (fun c_11 => ?_) (fun c_11 => ?_)
  · skip
    refine s_iconst (v := 1) dX4_economy_41 (by decide) ?_
    refine s_cv1G (n := 49) dX4_economy_42 rfl (kv hW.mm (by decide) rfl) rfl (by decide) (by decide) (by decide) (by decide) (Nat.le_of_ble_eq_true rfl) (m_holdsP (p := 1) hW (by decide)) (fun r1 S1 hr1 => ?_) (fun x S2 hr => by obtain ⟨e, -⟩ := hr; cases e)
    obtain ⟨e1, hW1, hG1⟩ := hr1
    cases e1
    have hF1 := hF.tr hG1
    refine s_ifne (tgt := 50) dX4_economy_45 (by decide) (fun c => absurd c (by decide)) (fun _ => ?_)
    refine s_lconst (v := 0) dX4_economy_48 (by decide) ?_
    exact s_retl dX4_economy_49 rfl (NJ.of (F := f_X4_economy c g b x) (x := 0) (by unfold f_X4_economy; rw [if_pos c_11]) hW1 hF1)
  · skip
    refine s_iloadn dX4_economy_14 rfl rfl ?_
    refine s_sipush (v := (-200)) dX4_economy_15 (by decide) ?_
    refine s_sipush (v := 200) dX4_economy_18 (by decide) ?_
    refine s_cs3R (n := 23) dX4_economy_21 rfl rfl (by decide) (by decide) (by decide) (by decide) (Nat.le_of_ble_eq_true rfl) (m_X4_isIn) ?_
    refine s_ifeq (tgt := 41) dX4_economy_24 (by decide) (fun c_24 => ?_) (fun c_24 => ?_)
    · skip
      refine s_iconst (v := 1) dX4_economy_41 (by decide) ?_
      refine s_cv1G (n := 49) dX4_economy_42 rfl (kv hW.mm (by decide) rfl) rfl (by decide) (by decide) (by decide) (by decide) (Nat.le_of_ble_eq_true rfl) (m_holdsP (p := 1) hW (by decide)) (fun r2 S2 hr2 => ?_) (fun x S2 hr => by obtain ⟨e, -⟩ := hr; cases e)
      obtain ⟨e2, hW2, hG2⟩ := hr2
      cases e2
      have hF2 := hF.tr hG2
      refine s_ifne (tgt := 50) dX4_economy_45 (by decide) (fun c => absurd c (by decide)) (fun _ => ?_)
      refine s_lconst (v := 0) dX4_economy_48 (by decide) ?_
      exact s_retl dX4_economy_49 rfl (NJ.of (F := f_X4_economy c g b x) (x := 0) (by unfold f_X4_economy; rw [if_neg c_11, if_pos c_24]) hW2 hF2)
    · skip
      refine s_iloadn dX4_economy_27 rfl rfl ?_
      refine s_iconst (v := 0) dX4_economy_28 (by decide) ?_
      refine s_ldc (v := 10000000) dX4_economy_29 cst_RX4_139 ?_
      refine s_cs3R (n := 23) dX4_economy_31 rfl rfl (by decide) (by decide) (by decide) (by decide) (Nat.le_of_ble_eq_true rfl) (m_X4_isIn) ?_
      refine s_ifeq (tgt := 41) dX4_economy_34 (by decide) (fun c_34 => ?_) (fun c_34 => ?_)
      · skip
        refine s_iconst (v := 1) dX4_economy_41 (by decide) ?_
        refine s_cv1G (n := 49) dX4_economy_42 rfl (kv hW.mm (by decide) rfl) rfl (by decide) (by decide) (by decide) (by decide) (Nat.le_of_ble_eq_true rfl) (m_holdsP (p := 1) hW (by decide)) (fun r3 S3 hr3 => ?_) (fun x S2 hr => by obtain ⟨e, -⟩ := hr; cases e)
        obtain ⟨e3, hW3, hG3⟩ := hr3
        cases e3
        have hF3 := hF.tr hG3
        refine s_ifne (tgt := 50) dX4_economy_45 (by decide) (fun c => absurd c (by decide)) (fun _ => ?_)
        refine s_lconst (v := 0) dX4_economy_48 (by decide) ?_
        exact s_retl dX4_economy_49 rfl (NJ.of (F := f_X4_economy c g b x) (x := 0) (by unfold f_X4_economy; rw [if_neg c_11, if_neg c_24, if_pos c_34]) hW3 hF3)
      · skip
        refine s_iconst (v := 0) dX4_economy_37 (by decide) ?_
        refine s_goto (tgt := 42) dX4_economy_38 (by decide) ?_
        refine s_cv1G (n := 49) dX4_economy_42 rfl (kv hW.mm (by decide) rfl) rfl (by decide) (by decide) (by decide) (by decide) (Nat.le_of_ble_eq_true rfl) (m_holds0 hW) (fun r4 S4 hr4 => ?_) (fun x S2 hr => by obtain ⟨e, -⟩ := hr; cases e)
        obtain ⟨e4, hW4, hG4⟩ := hr4
        cases e4
        have hF4 := hF.tr hG4
        refine s_ifne (tgt := 50) dX4_economy_45 (by decide) (fun _ => ?_) (fun c => absurd c (by decide))
        refine s_aloadn dX4_economy_50 rfl rfl ?_
        refine s_iloadn dX4_economy_51 rfl rfl ?_
        refine s_putI (n := 65) dX4_economy_52 rfl hW4.mm (Or.inl rfl) (fun _ _ _ => rfl) rfl rfl ?_
        have hW5 := hW4.pti (k := 4) (v := g)
        have hF5 := hF4.uI (a := w.mm) (k := 4) (v := g) (kd := 5) hW4.mm (by decide)
        refine s_aloadn dX4_economy_55 rfl rfl ?_
        refine s_iloadn dX4_economy_56 rfl rfl ?_
        refine s_putI (n := 66) dX4_economy_57 rfl hW5.mm (Or.inl rfl) (fun _ _ _ => rfl) rfl rfl ?_
        have hW6 := hW5.pti (k := 5) (v := b)
        have hF6 := hF5.uI (a := w.mm) (k := 5) (v := b) (kd := 5) hW5.mm (by decide)
        refine s_aloadn dX4_economy_60 rfl rfl ?_
        refine s_dup dX4_economy_61 rfl ?_
        refine s_get (v := .long (c.tj 2)) (n := 63) dX4_economy_62 rfl hW6.mm (congrArg Value.long (congrFun hW6.tj 2)) ?_
        refine s_iloadn dX4_economy_65 rfl rfl ?_
        refine s_i2l dX4_economy_66 ?_
        refine s_ladd dX4_economy_67 ?_
        refine s_putJ (n := 63) dX4_economy_68 rfl hW6.mm (Or.inl rfl) (fun _ _ _ => rfl) rfl rfl ?_
        have hW7 := hW6.ptj (k := 2) (v := (c.tj 2) + ((x : Int32).toInt64))
        have hF7 := hF6.uJ (a := w.mm) (k := 2) (v := (c.tj 2) + ((x : Int32).toInt64)) (kd := 5) hW6.mm (by decide)
        refine s_aloadn dX4_economy_71 rfl rfl ?_
        refine s_get (v := .long ((c.tj 2) + ((x : Int32).toInt64))) (n := 63) dX4_economy_72 rfl hW7.mm (congrArg Value.long (congrFun hW7.tj 2)) ?_
        exact s_retl dX4_economy_75 rfl (NJ.of (F := f_X4_economy c g b x) (x := (c.tj 2) + ((x : Int32).toInt64)) (by unfold f_X4_economy; rw [if_neg c_11, if_neg c_24, if_neg c_34]) hW7 hF7)
def f_X4_discount (c : MC) (r : Int32) : Int32 × MC := if (f_X4_isIn r 0 1500) = 0 then (0, (c.pti 0 1)) else ((c.ti 6), ((c.pti 0 0).pti 6 r))
set_option maxHeartbeats 4000000 in
theorem m_X4_discount {tm : Nat × Nat} {S : Sto} {w : MAd} {c : MC} {r : Int32} (hW : MW S w c)   : Ev tm M_X4_discount [.ref w.mm, .int r] S (NI w S (f_X4_discount c r)) := by
  have hF : FrM S S := FrM.rf
  refine ev_in ok_X4_discount (Nat.le_of_ble_eq_true rfl) ?_
  refine s_aloadn dX4_discount_0 rfl rfl ?_
  refine s_iloadn dX4_discount_1 rfl rfl ?_
  refine s_iconst (v := 0) dX4_discount_2 (by decide) ?_
  refine s_sipush (v := 1500) dX4_discount_3 (by decide) ?_
  refine s_cs3R (n := 23) dX4_discount_6 rfl rfl (by decide) (by decide) (by decide) (by decide) (Nat.le_of_ble_eq_true rfl) (m_X4_isIn) ?_
  refine s_ifeq (tgt := 16) dX4_discount_9 (by decide) (fun c_9 => ?_) (fun c_9 => ?_)
  · skip
    refine s_iconst (v := 1) dX4_discount_16 (by decide) ?_
    refine s_cv1G (n := 49) dX4_discount_17 rfl (kv hW.mm (by decide) rfl) rfl (by decide) (by decide) (by decide) (by decide) (Nat.le_of_ble_eq_true rfl) (m_holdsP (p := 1) hW (by decide)) (fun r1 S1 hr1 => ?_) (fun x S2 hr => by obtain ⟨e, -⟩ := hr; cases e)
    obtain ⟨e1, hW1, hG1⟩ := hr1
    cases e1
    have hF1 := hF.tr hG1
    refine s_ifne (tgt := 25) dX4_discount_20 (by decide) (fun c => absurd c (by decide)) (fun _ => ?_)
    refine s_iconst (v := 0) dX4_discount_23 (by decide) ?_
    exact s_reti dX4_discount_24 rfl rfl (NI.of (F := f_X4_discount c r) (x := 0) (by unfold f_X4_discount; rw [if_pos c_9]) hW1 hF1)
  · skip
    refine s_iconst (v := 0) dX4_discount_12 (by decide) ?_
    refine s_goto (tgt := 17) dX4_discount_13 (by decide) ?_
    refine s_cv1G (n := 49) dX4_discount_17 rfl (kv hW.mm (by decide) rfl) rfl (by decide) (by decide) (by decide) (by decide) (Nat.le_of_ble_eq_true rfl) (m_holds0 hW) (fun r2 S2 hr2 => ?_) (fun x S2 hr => by obtain ⟨e, -⟩ := hr; cases e)
    obtain ⟨e2, hW2, hG2⟩ := hr2
    cases e2
    have hF2 := hF.tr hG2
    refine s_ifne (tgt := 25) dX4_discount_20 (by decide) (fun _ => ?_) (fun c => absurd c (by decide))
    refine s_aloadn dX4_discount_25 rfl rfl ?_
    refine s_get (v := .int (c.ti 6)) (n := 67) dX4_discount_26 rfl hW2.mm (congrArg Value.int (congrFun hW2.ti 6)) ?_
    refine s_istoren dX4_discount_29 rfl (by decide) ?_
    refine s_aloadn dX4_discount_30 rfl rfl ?_
    refine s_iloadn dX4_discount_31 rfl rfl ?_
    refine s_putI (n := 67) dX4_discount_32 rfl hW2.mm (Or.inl rfl) (fun _ _ _ => rfl) rfl rfl ?_
    have hW3 := hW2.pti (k := 6) (v := r)
    have hF3 := hF2.uI (a := w.mm) (k := 6) (v := r) (kd := 5) hW2.mm (by decide)
    refine s_iloadn dX4_discount_35 rfl rfl ?_
    exact s_reti dX4_discount_36 rfl rfl (NI.of (F := f_X4_discount c r) (x := (c.ti 6)) (by unfold f_X4_discount; rw [if_neg c_9]) hW3 hF3)
def f_X4_programme (c : MC) (a t r : Int32) : MC := if (f_X4_isIn a 1 1000000) = 0 then (c.pti 0 1) else (if (f_X4_isIn t (-200) 200) = 0 then (c.pti 0 1) else (if (f_X4_isIn r 1 10) = 0 then (c.pti 0 1) else ((((c.pti 0 0).pti 34 a).pti 35 t).pti 36 r)))
set_option maxHeartbeats 4000000 in
theorem m_X4_programme {tm : Nat × Nat} {S : Sto} {w : MAd} {c : MC} {a t r : Int32} (hW : MW S w c)   : Ev tm M_X4_programme [.ref w.mm, .int a, .int t, .int r] S (NV w S (f_X4_programme c a t r)) := by
  have hF : FrM S S := FrM.rf
  refine ev_in ok_X4_programme (Nat.le_of_ble_eq_true rfl) ?_
  refine s_aloadn dX4_programme_0 rfl rfl ?_
  refine s_iloadn dX4_programme_1 rfl rfl ?_
  refine s_iconst (v := 1) dX4_programme_2 (by decide) ?_
  refine s_ldc (v := 1000000) dX4_programme_3 cst_RX4_117 ?_
  refine s_cs3R (n := 23) dX4_programme_5 rfl rfl (by decide) (by decide) (by decide) (by decide) (Nat.le_of_ble_eq_true rfl) (m_X4_isIn) ?_
  refine s_ifeq (tgt := 38) dX4_programme_8 (by decide) (fun c_8 => ?_) (fun c_8 => ?_)
  · skip
    refine s_iconst (v := 1) dX4_programme_38 (by decide) ?_
    refine s_cv1G (n := 49) dX4_programme_39 rfl (kv hW.mm (by decide) rfl) rfl (by decide) (by decide) (by decide) (by decide) (Nat.le_of_ble_eq_true rfl) (m_holdsP (p := 1) hW (by decide)) (fun r1 S1 hr1 => ?_) (fun x S2 hr => by obtain ⟨e, -⟩ := hr; cases e)
    obtain ⟨e1, hW1, hG1⟩ := hr1
    cases e1
    have hF1 := hF.tr hG1
    refine s_ifeq (tgt := 60) dX4_programme_42 (by decide) (fun _ => ?_) (fun c => absurd c (by decide))
    exact s_retv dX4_programme_60 rfl (NV.of (F := f_X4_programme c a t r) (by unfold f_X4_programme; rw [if_pos c_8]) hW1 hF1)
  · skip
    refine s_iloadn dX4_programme_11 rfl rfl ?_
    refine s_sipush (v := (-200)) dX4_programme_12 (by decide) ?_
    refine s_sipush (v := 200) dX4_programme_15 (by decide) ?_
    refine s_cs3R (n := 23) dX4_programme_18 rfl rfl (by decide) (by decide) (by decide) (by decide) (Nat.le_of_ble_eq_true rfl) (m_X4_isIn) ?_
    refine s_ifeq (tgt := 38) dX4_programme_21 (by decide) (fun c_21 => ?_) (fun c_21 => ?_)
    · skip
      refine s_iconst (v := 1) dX4_programme_38 (by decide) ?_
      refine s_cv1G (n := 49) dX4_programme_39 rfl (kv hW.mm (by decide) rfl) rfl (by decide) (by decide) (by decide) (by decide) (Nat.le_of_ble_eq_true rfl) (m_holdsP (p := 1) hW (by decide)) (fun r2 S2 hr2 => ?_) (fun x S2 hr => by obtain ⟨e, -⟩ := hr; cases e)
      obtain ⟨e2, hW2, hG2⟩ := hr2
      cases e2
      have hF2 := hF.tr hG2
      refine s_ifeq (tgt := 60) dX4_programme_42 (by decide) (fun _ => ?_) (fun c => absurd c (by decide))
      exact s_retv dX4_programme_60 rfl (NV.of (F := f_X4_programme c a t r) (by unfold f_X4_programme; rw [if_neg c_8, if_pos c_21]) hW2 hF2)
    · skip
      refine s_iloadn dX4_programme_24 rfl rfl ?_
      refine s_iconst (v := 1) dX4_programme_25 (by decide) ?_
      refine s_bipush (v := 10) dX4_programme_26 (by decide) ?_
      refine s_cs3R (n := 23) dX4_programme_28 rfl rfl (by decide) (by decide) (by decide) (by decide) (Nat.le_of_ble_eq_true rfl) (m_X4_isIn) ?_
      refine s_ifeq (tgt := 38) dX4_programme_31 (by decide) (fun c_31 => ?_) (fun c_31 => ?_)
      · skip
        refine s_iconst (v := 1) dX4_programme_38 (by decide) ?_
        refine s_cv1G (n := 49) dX4_programme_39 rfl (kv hW.mm (by decide) rfl) rfl (by decide) (by decide) (by decide) (by decide) (Nat.le_of_ble_eq_true rfl) (m_holdsP (p := 1) hW (by decide)) (fun r3 S3 hr3 => ?_) (fun x S2 hr => by obtain ⟨e, -⟩ := hr; cases e)
        obtain ⟨e3, hW3, hG3⟩ := hr3
        cases e3
        have hF3 := hF.tr hG3
        refine s_ifeq (tgt := 60) dX4_programme_42 (by decide) (fun _ => ?_) (fun c => absurd c (by decide))
        exact s_retv dX4_programme_60 rfl (NV.of (F := f_X4_programme c a t r) (by unfold f_X4_programme; rw [if_neg c_8, if_neg c_21, if_pos c_31]) hW3 hF3)
      · skip
        refine s_iconst (v := 0) dX4_programme_34 (by decide) ?_
        refine s_goto (tgt := 39) dX4_programme_35 (by decide) ?_
        refine s_cv1G (n := 49) dX4_programme_39 rfl (kv hW.mm (by decide) rfl) rfl (by decide) (by decide) (by decide) (by decide) (Nat.le_of_ble_eq_true rfl) (m_holds0 hW) (fun r4 S4 hr4 => ?_) (fun x S2 hr => by obtain ⟨e, -⟩ := hr; cases e)
        obtain ⟨e4, hW4, hG4⟩ := hr4
        cases e4
        have hF4 := hF.tr hG4
        refine s_ifeq (tgt := 60) dX4_programme_42 (by decide) (fun c => absurd c (by decide)) (fun _ => ?_)
        refine s_aloadn dX4_programme_45 rfl rfl ?_
        refine s_iloadn dX4_programme_46 rfl rfl ?_
        refine s_putI (n := 95) dX4_programme_47 rfl hW4.mm (Or.inl rfl) (fun _ _ _ => rfl) rfl rfl ?_
        have hW5 := hW4.pti (k := 34) (v := a)
        have hF5 := hF4.uI (a := w.mm) (k := 34) (v := a) (kd := 5) hW4.mm (by decide)
        refine s_aloadn dX4_programme_50 rfl rfl ?_
        refine s_iloadn dX4_programme_51 rfl rfl ?_
        refine s_putI (n := 96) dX4_programme_52 rfl hW5.mm (Or.inl rfl) (fun _ _ _ => rfl) rfl rfl ?_
        have hW6 := hW5.pti (k := 35) (v := t)
        have hF6 := hF5.uI (a := w.mm) (k := 35) (v := t) (kd := 5) hW5.mm (by decide)
        refine s_aloadn dX4_programme_55 rfl rfl ?_
        refine s_iloadn dX4_programme_56 rfl rfl ?_
        refine s_putI (n := 97) dX4_programme_57 rfl hW6.mm (Or.inl rfl) (fun _ _ _ => rfl) rfl rfl ?_
        have hW7 := hW6.pti (k := 36) (v := r)
        have hF7 := hF6.uI (a := w.mm) (k := 36) (v := r) (kd := 5) hW6.mm (by decide)
        exact s_retv dX4_programme_60 rfl (NV.of (F := f_X4_programme c a t r) (by unfold f_X4_programme; rw [if_neg c_8, if_neg c_21, if_neg c_31]) hW7 hF7)
def f_X4_pledge (n : Nat) (c : MC) (k x : Int32) : Int64 × MC := if (f_X4_isClaim c k) = 0 then (0, (c.pti 0 1)) else (if (f_X4_isIn x 1 1000000) = 0 then (0, (c.pti 0 2)) else (if (c.ai 16 (ix k)) = 0 then (if ((x : Int32).toInt64) ≤ (c.tj 2) then ((c.aj 18 (ix k)) + ((x : Int32).toInt64), (((c.pti 0 0).ptj 2 ((c.tj 2) - ((x : Int32).toInt64))).paj 18 (ix k) ((c.aj 18 (ix k)) + ((x : Int32).toInt64)))) else (0, (c.pti 0 3))) else (0, (c.pti 0 3))))
set_option maxHeartbeats 4000000 in
theorem m_X4_pledge {tm : Nat × Nat} {S : Sto} {w : MAd} {c : MC} {n : Nat} {k x : Int32} (hW : MW S w c) (hcl : c.ti 7 = nI n) (hn : n ≤ 40)  : Ev tm M_X4_pledge [.ref w.mm, .int k, .int x] S (NJ w S (f_X4_pledge n c k x)) := by
  have hF : FrM S S := FrM.rf
  refine ev_in ok_X4_pledge (Nat.le_of_ble_eq_true rfl) ?_
  refine s_aloadn dX4_pledge_0 rfl rfl ?_
  refine s_iloadn dX4_pledge_1 rfl rfl ?_
  refine s_cv1R (n := 51) dX4_pledge_2 rfl (kv hW.mm (by decide) rfl) rfl (by decide) (by decide) (by decide) (by decide) (Nat.le_of_ble_eq_true rfl) (m_X4_isClaim hW) ?_
  refine s_istoren dX4_pledge_5 rfl (by decide) ?_
  refine s_aloadn dX4_pledge_6 rfl rfl ?_
  refine s_iloadn dX4_pledge_7 rfl rfl ?_
  refine s_ifne (tgt := 15) dX4_pledge_8 (by decide) (fun c_8 => ?_) (fun c_8 => ?_)
  · skip
    refine s_iloadn dX4_pledge_15 rfl rfl ?_
    refine s_iconst (v := 1) dX4_pledge_16 (by decide) ?_
    refine s_ldc (v := 1000000) dX4_pledge_17 cst_RX4_117 ?_
    refine s_cs3R (n := 23) dX4_pledge_19 rfl rfl (by decide) (by decide) (by decide) (by decide) (Nat.le_of_ble_eq_true rfl) (m_X4_isIn) ?_
    refine s_ifne (tgt := 29) dX4_pledge_22 (by decide) (fun c_22 => ?_) (fun c_22 => ?_)
    · skip
      refine s_aloadn dX4_pledge_29 rfl rfl ?_
      refine s_getR (n := 77) dX4_pledge_30 rfl hW.mm (fun _ _ _ => rfl) (hW.rr 16 (by decide)).1 ?_
      refine s_iloadn dX4_pledge_33 rfl rfl ?_
      refine s_iald' (j := (ix k)) dX4_pledge_34 ((hW.rr 16 (by decide)).2.1) (inr_ix (isC hcl hn c_8)).symm (by rw [(hW.rr 16 (by decide)).2.2]; exact (Nat.lt_of_lt_of_le (inr_lt (isC hcl hn c_8) hn) hn)) (by rw [(hW.rr 16 (by decide)).2.2]; decide) ?_
      rw [hW.ai 16 (by decide)]
      refine s_ifne (tgt := 48) dX4_pledge_35 (by decide) (fun c_35 => ?_) (fun c_35 => ?_)
      · skip
        refine s_iconst (v := 3) dX4_pledge_48 (by decide) ?_
        refine s_goto (tgt := 53) dX4_pledge_49 (by decide) ?_
        refine s_cv1G (n := 49) dX4_pledge_53 rfl (kv hW.mm (by decide) rfl) rfl (by decide) (by decide) (by decide) (by decide) (Nat.le_of_ble_eq_true rfl) (m_holdsP (p := 3) hW (by decide)) (fun r1 S1 hr1 => ?_) (fun x S2 hr => by obtain ⟨e, -⟩ := hr; cases e)
        obtain ⟨e1, hW1, hG1⟩ := hr1
        cases e1
        have hF1 := hF.tr hG1
        refine s_ifne (tgt := 61) dX4_pledge_56 (by decide) (fun c => absurd c (by decide)) (fun _ => ?_)
        refine s_lconst (v := 0) dX4_pledge_59 (by decide) ?_
        exact s_retl dX4_pledge_60 rfl (NJ.of (F := f_X4_pledge n c k x) (x := 0) (by unfold f_X4_pledge; rw [if_neg c_8, if_neg c_22, if_neg c_35]) hW1 hF1)
      · skip
        refine s_aloadn dX4_pledge_38 rfl rfl ?_
        refine s_get (v := .long (c.tj 2)) (n := 63) dX4_pledge_39 rfl hW.mm (congrArg Value.long (congrFun hW.tj 2)) ?_
        refine s_iloadn dX4_pledge_42 rfl rfl ?_
        refine s_i2l dX4_pledge_43 ?_
        refine s_lcge (tgt := 52) dX4_pledge_44 dX4_pledge_45 (by decide) (fun c_44 => ?_) (fun c_44 => ?_)
        · skip
          refine s_iconst (v := 0) dX4_pledge_52 (by decide) ?_
          refine s_cv1G (n := 49) dX4_pledge_53 rfl (kv hW.mm (by decide) rfl) rfl (by decide) (by decide) (by decide) (by decide) (Nat.le_of_ble_eq_true rfl) (m_holds0 hW) (fun r2 S2 hr2 => ?_) (fun x S2 hr => by obtain ⟨e, -⟩ := hr; cases e)
          obtain ⟨e2, hW2, hG2⟩ := hr2
          cases e2
          have hF2 := hF.tr hG2
          refine s_ifne (tgt := 61) dX4_pledge_56 (by decide) (fun _ => ?_) (fun c => absurd c (by decide))
          refine s_aloadn dX4_pledge_61 rfl rfl ?_
          refine s_dup dX4_pledge_62 rfl ?_
          refine s_get (v := .long (c.tj 2)) (n := 63) dX4_pledge_63 rfl hW2.mm (congrArg Value.long (congrFun hW2.tj 2)) ?_
          refine s_iloadn dX4_pledge_66 rfl rfl ?_
          refine s_i2l dX4_pledge_67 ?_
          refine s_lsub dX4_pledge_68 ?_
          refine s_putJ (n := 63) dX4_pledge_69 rfl hW2.mm (Or.inl rfl) (fun _ _ _ => rfl) rfl rfl ?_
          have hW3 := hW2.ptj (k := 2) (v := (c.tj 2) - ((x : Int32).toInt64))
          have hF3 := hF2.uJ (a := w.mm) (k := 2) (v := (c.tj 2) - ((x : Int32).toInt64)) (kd := 5) hW2.mm (by decide)
          refine s_aloadn dX4_pledge_72 rfl rfl ?_
          refine s_getR (n := 79) dX4_pledge_73 rfl hW3.mm (fun _ _ _ => rfl) (hW3.rr 18 (by decide)).1 ?_
          refine s_iloadn dX4_pledge_76 rfl rfl ?_
          refine s_dup2 dX4_pledge_77 rfl rfl ?_
          refine s_lald' (j := (ix k)) dX4_pledge_78 (Or.inr (Or.inl (hW3.rr 18 (by decide)).2.1)) (inr_ix (isC hcl hn c_8)).symm (by rw [(hW3.rr 18 (by decide)).2.2]; exact (Nat.lt_of_lt_of_le (inr_lt (isC hcl hn c_8) hn) hn)) (by rw [(hW3.rr 18 (by decide)).2.2]; decide) ?_
          rw [hW3.aj 18 (by decide)]
          refine s_iloadn dX4_pledge_79 rfl rfl ?_
          refine s_i2l dX4_pledge_80 ?_
          refine s_ladd dX4_pledge_81 ?_
          refine s_last' (j := (ix k)) dX4_pledge_82 (Or.inr (Or.inl (hW3.rr 18 (by decide)).2.1)) (inr_ix (isC hcl hn c_8)).symm (by rw [(hW3.rr 18 (by decide)).2.2]; exact (Nat.lt_of_lt_of_le (inr_lt (isC hcl hn c_8) hn) hn)) (by rw [(hW3.rr 18 (by decide)).2.2]; decide) ?_
          have hW4 := hW3.paj (f := 18) (by decide) (k := (ix k)) (v := (c.aj 18 (ix k)) + ((x : Int32).toInt64))
          have hF4 := hF3.uJ (a := (w.ar 18)) (k := (ix k)) (v := (c.aj 18 (ix k)) + ((x : Int32).toInt64)) (kd := 10) ((hW3.rr 18 (by decide)).2.1) (by decide)
          refine s_aloadn dX4_pledge_83 rfl rfl ?_
          refine s_getR (n := 79) dX4_pledge_84 rfl hW4.mm (fun _ _ _ => rfl) (hW4.rr 18 (by decide)).1 ?_
          refine s_iloadn dX4_pledge_87 rfl rfl ?_
          refine s_lald' (j := (ix k)) dX4_pledge_88 (Or.inr (Or.inl (hW4.rr 18 (by decide)).2.1)) (inr_ix (isC hcl hn c_8)).symm (by rw [(hW4.rr 18 (by decide)).2.2]; exact (Nat.lt_of_lt_of_le (inr_lt (isC hcl hn c_8) hn) hn)) (by rw [(hW4.rr 18 (by decide)).2.2]; decide) ?_
          rw [hW4.aj 18 (by decide)]
          rw [show (((c.pti 0 0).ptj 2 ((c.tj 2) - ((x : Int32).toInt64))).paj 18 (ix k) ((c.aj 18 (ix k)) + ((x : Int32).toInt64))).aj 18 (ix k) = (c.aj 18 (ix k)) + ((x : Int32).toInt64) from (by show up2 _ 18 (ix k) _ 18 (ix k) = _; exact up2_self)]
          exact s_retl dX4_pledge_89 rfl (NJ.of (F := f_X4_pledge n c k x) (x := (c.aj 18 (ix k)) + ((x : Int32).toInt64)) (by unfold f_X4_pledge; rw [if_neg c_8, if_neg c_22, if_pos c_35, if_pos c_44]) hW4 hF4)
        · skip
          refine s_iconst (v := 3) dX4_pledge_48 (by decide) ?_
          refine s_goto (tgt := 53) dX4_pledge_49 (by decide) ?_
          refine s_cv1G (n := 49) dX4_pledge_53 rfl (kv hW.mm (by decide) rfl) rfl (by decide) (by decide) (by decide) (by decide) (Nat.le_of_ble_eq_true rfl) (m_holdsP (p := 3) hW (by decide)) (fun r5 S5 hr5 => ?_) (fun x S2 hr => by obtain ⟨e, -⟩ := hr; cases e)
          obtain ⟨e5, hW5, hG5⟩ := hr5
          cases e5
          have hF5 := hF.tr hG5
          refine s_ifne (tgt := 61) dX4_pledge_56 (by decide) (fun c => absurd c (by decide)) (fun _ => ?_)
          refine s_lconst (v := 0) dX4_pledge_59 (by decide) ?_
          exact s_retl dX4_pledge_60 rfl (NJ.of (F := f_X4_pledge n c k x) (x := 0) (by unfold f_X4_pledge; rw [if_neg c_8, if_neg c_22, if_pos c_35, if_neg c_44]) hW5 hF5)
    · skip
      refine s_iconst (v := 2) dX4_pledge_25 (by decide) ?_
      refine s_goto (tgt := 53) dX4_pledge_26 (by decide) ?_
      refine s_cv1G (n := 49) dX4_pledge_53 rfl (kv hW.mm (by decide) rfl) rfl (by decide) (by decide) (by decide) (by decide) (Nat.le_of_ble_eq_true rfl) (m_holdsP (p := 2) hW (by decide)) (fun r6 S6 hr6 => ?_) (fun x S2 hr => by obtain ⟨e, -⟩ := hr; cases e)
      obtain ⟨e6, hW6, hG6⟩ := hr6
      cases e6
      have hF6 := hF.tr hG6
      refine s_ifne (tgt := 61) dX4_pledge_56 (by decide) (fun c => absurd c (by decide)) (fun _ => ?_)
      refine s_lconst (v := 0) dX4_pledge_59 (by decide) ?_
      exact s_retl dX4_pledge_60 rfl (NJ.of (F := f_X4_pledge n c k x) (x := 0) (by unfold f_X4_pledge; rw [if_neg c_8, if_pos c_22]) hW6 hF6)
  · skip
    refine s_iconst (v := 1) dX4_pledge_11 (by decide) ?_
    refine s_goto (tgt := 53) dX4_pledge_12 (by decide) ?_
    refine s_cv1G (n := 49) dX4_pledge_53 rfl (kv hW.mm (by decide) rfl) rfl (by decide) (by decide) (by decide) (by decide) (Nat.le_of_ble_eq_true rfl) (m_holdsP (p := 1) hW (by decide)) (fun r7 S7 hr7 => ?_) (fun x S2 hr => by obtain ⟨e, -⟩ := hr; cases e)
    obtain ⟨e7, hW7, hG7⟩ := hr7
    cases e7
    have hF7 := hF.tr hG7
    refine s_ifne (tgt := 61) dX4_pledge_56 (by decide) (fun c => absurd c (by decide)) (fun _ => ?_)
    refine s_lconst (v := 0) dX4_pledge_59 (by decide) ?_
    exact s_retl dX4_pledge_60 rfl (NJ.of (F := f_X4_pledge n c k x) (x := 0) (by unfold f_X4_pledge; rw [if_pos c_8]) hW7 hF7)
def f_X4_reveal (n : Nat) (c : MC) (k : Int32) : Int64 × MC := if (f_X4_isClaim c k) = 0 then (0, (c.pti 0 1)) else (if (c.ai 15 (ix k)) = 0 then (0, (c.pti 0 2)) else ((f_X4_debt n ((c.pti 0 0).pai 15 (ix k) 0)), ((c.pti 0 0).pai 15 (ix k) 0)))
set_option maxHeartbeats 4000000 in
theorem m_X4_reveal {tm : Nat × Nat} {S : Sto} {w : MAd} {c : MC} {n : Nat} {k : Int32} (hW : MW S w c) (hcl : c.ti 7 = nI n) (hn : n ≤ 40)  : Ev tm M_X4_reveal [.ref w.mm, .int k] S (NJ w S (f_X4_reveal n c k)) := by
  have hF : FrM S S := FrM.rf
  refine ev_in ok_X4_reveal (Nat.le_of_ble_eq_true rfl) ?_
  refine s_aloadn dX4_reveal_0 rfl rfl ?_
  refine s_iloadn dX4_reveal_1 rfl rfl ?_
  refine s_cv1R (n := 51) dX4_reveal_2 rfl (kv hW.mm (by decide) rfl) rfl (by decide) (by decide) (by decide) (by decide) (Nat.le_of_ble_eq_true rfl) (m_X4_isClaim hW) ?_
  refine s_istoren dX4_reveal_5 rfl (by decide) ?_
  refine s_aloadn dX4_reveal_6 rfl rfl ?_
  refine s_iloadn dX4_reveal_7 rfl rfl ?_
  refine s_ifne (tgt := 15) dX4_reveal_8 (by decide) (fun c_8 => ?_) (fun c_8 => ?_)
  · skip
    refine s_aloadn dX4_reveal_15 rfl rfl ?_
    refine s_getR (n := 76) dX4_reveal_16 rfl hW.mm (fun _ _ _ => rfl) (hW.rr 15 (by decide)).1 ?_
    refine s_iloadn dX4_reveal_19 rfl rfl ?_
    refine s_zald' (j := (ix k)) dX4_reveal_20 ((hW.rr 15 (by decide)).2.1) (inr_ix (isC hcl hn c_8)).symm (by rw [(hW.rr 15 (by decide)).2.2]; exact (Nat.lt_of_lt_of_le (inr_lt (isC hcl hn c_8) hn) hn)) (by rw [(hW.rr 15 (by decide)).2.2]; decide) ?_
    rw [hW.ai 15 (by decide)]
    refine s_ifeq (tgt := 28) dX4_reveal_21 (by decide) (fun c_21 => ?_) (fun c_21 => ?_)
    · skip
      refine s_iconst (v := 2) dX4_reveal_28 (by decide) ?_
      refine s_cv1G (n := 49) dX4_reveal_29 rfl (kv hW.mm (by decide) rfl) rfl (by decide) (by decide) (by decide) (by decide) (Nat.le_of_ble_eq_true rfl) (m_holdsP (p := 2) hW (by decide)) (fun r1 S1 hr1 => ?_) (fun x S2 hr => by obtain ⟨e, -⟩ := hr; cases e)
      obtain ⟨e1, hW1, hG1⟩ := hr1
      cases e1
      have hF1 := hF.tr hG1
      refine s_ifne (tgt := 37) dX4_reveal_32 (by decide) (fun c => absurd c (by decide)) (fun _ => ?_)
      refine s_lconst (v := 0) dX4_reveal_35 (by decide) ?_
      exact s_retl dX4_reveal_36 rfl (NJ.of (F := f_X4_reveal n c k) (x := 0) (by unfold f_X4_reveal; rw [if_neg c_8, if_pos c_21]) hW1 hF1)
    · skip
      refine s_iconst (v := 0) dX4_reveal_24 (by decide) ?_
      refine s_goto (tgt := 29) dX4_reveal_25 (by decide) ?_
      refine s_cv1G (n := 49) dX4_reveal_29 rfl (kv hW.mm (by decide) rfl) rfl (by decide) (by decide) (by decide) (by decide) (Nat.le_of_ble_eq_true rfl) (m_holds0 hW) (fun r2 S2 hr2 => ?_) (fun x S2 hr => by obtain ⟨e, -⟩ := hr; cases e)
      obtain ⟨e2, hW2, hG2⟩ := hr2
      cases e2
      have hF2 := hF.tr hG2
      refine s_ifne (tgt := 37) dX4_reveal_32 (by decide) (fun _ => ?_) (fun c => absurd c (by decide))
      refine s_aloadn dX4_reveal_37 rfl rfl ?_
      refine s_getR (n := 76) dX4_reveal_38 rfl hW2.mm (fun _ _ _ => rfl) (hW2.rr 15 (by decide)).1 ?_
      refine s_iloadn dX4_reveal_41 rfl rfl ?_
      refine s_iconst (v := 0) dX4_reveal_42 (by decide) ?_
      refine s_zast' (j := (ix k)) dX4_reveal_43 ((hW2.rr 15 (by decide)).2.1) (inr_ix (isC hcl hn c_8)).symm (by rw [(hW2.rr 15 (by decide)).2.2]; exact (Nat.lt_of_lt_of_le (inr_lt (isC hcl hn c_8) hn) hn)) (by rw [(hW2.rr 15 (by decide)).2.2]; decide) (by decide) ?_
      have hW3 := hW2.pai (f := 15) (by decide) (k := (ix k)) (v := 0)
      have hF3 := hF2.uI (a := (w.ar 15)) (k := (ix k)) (v := 0) (kd := 8) ((hW2.rr 15 (by decide)).2.1) (by decide)
      refine s_aloadn dX4_reveal_44 rfl rfl ?_
      refine s_cv0R (n := 53) dX4_reveal_45 rfl (kv hW3.mm (by decide) rfl) rfl (by decide) (by decide) (by decide) (by decide) (Nat.le_of_ble_eq_true rfl) (m_X4_debt hW3 hcl hn) ?_
      exact s_retl dX4_reveal_48 rfl (NJ.of (F := f_X4_reveal n c k) (x := (f_X4_debt n ((c.pti 0 0).pai 15 (ix k) 0))) (by unfold f_X4_reveal; rw [if_neg c_8, if_neg c_21]) hW3 hF3)
  · skip
    refine s_iconst (v := 1) dX4_reveal_11 (by decide) ?_
    refine s_goto (tgt := 29) dX4_reveal_12 (by decide) ?_
    refine s_cv1G (n := 49) dX4_reveal_29 rfl (kv hW.mm (by decide) rfl) rfl (by decide) (by decide) (by decide) (by decide) (Nat.le_of_ble_eq_true rfl) (m_holdsP (p := 1) hW (by decide)) (fun r4 S4 hr4 => ?_) (fun x S2 hr => by obtain ⟨e, -⟩ := hr; cases e)
    obtain ⟨e4, hW4, hG4⟩ := hr4
    cases e4
    have hF4 := hF.tr hG4
    refine s_ifne (tgt := 37) dX4_reveal_32 (by decide) (fun c => absurd c (by decide)) (fun _ => ?_)
    refine s_lconst (v := 0) dX4_reveal_35 (by decide) ?_
    exact s_retl dX4_reveal_36 rfl (NJ.of (F := f_X4_reveal n c k) (x := 0) (by unfold f_X4_reveal; rw [if_pos c_8]) hW4 hF4)
def f_X4_moratorium (c : MC) (k z : Int32) : Int32 × MC := if (f_X4_isKind k) = 0 then (0, (c.pti 0 1)) else (if (c.ai 22 (ix k)) = z then (0, ((c.pti 0 0).pai 22 (ix k) z)) else (1, ((c.pti 0 0).pai 22 (ix k) z)))
set_option maxHeartbeats 4000000 in
theorem m_X4_moratorium {tm : Nat × Nat} {S : Sto} {w : MAd} {c : MC} {k z : Int32} (hW : MW S w c)  (hz : z = 0 ∨ z = 1) : Ev tm M_X4_moratorium [.ref w.mm, .int k, .int z] S (NI w S (f_X4_moratorium c k z)) := by
  have hF : FrM S S := FrM.rf
  refine ev_in ok_X4_moratorium (Nat.le_of_ble_eq_true rfl) ?_
  refine s_aloadn dX4_moratorium_0 rfl rfl ?_
  refine s_iloadn dX4_moratorium_1 rfl rfl ?_
  refine s_cs1R (n := 24) dX4_moratorium_2 rfl rfl (by decide) (by decide) (by decide) (by decide) (Nat.le_of_ble_eq_true rfl) (m_X4_isKind) ?_
  refine s_ifeq (tgt := 12) dX4_moratorium_5 (by decide) (fun c_5 => ?_) (fun c_5 => ?_)
  · skip
    refine s_iconst (v := 1) dX4_moratorium_12 (by decide) ?_
    refine s_cv1G (n := 49) dX4_moratorium_13 rfl (kv hW.mm (by decide) rfl) rfl (by decide) (by decide) (by decide) (by decide) (Nat.le_of_ble_eq_true rfl) (m_holdsP (p := 1) hW (by decide)) (fun r1 S1 hr1 => ?_) (fun x S2 hr => by obtain ⟨e, -⟩ := hr; cases e)
    obtain ⟨e1, hW1, hG1⟩ := hr1
    cases e1
    have hF1 := hF.tr hG1
    refine s_ifne (tgt := 21) dX4_moratorium_16 (by decide) (fun c => absurd c (by decide)) (fun _ => ?_)
    refine s_iconst (v := 0) dX4_moratorium_19 (by decide) ?_
    exact s_reti dX4_moratorium_20 rfl rfl (NI.of (F := f_X4_moratorium c k z) (x := 0) (by unfold f_X4_moratorium; rw [if_pos c_5]) hW1 hF1)
  · skip
    refine s_iconst (v := 0) dX4_moratorium_8 (by decide) ?_
    refine s_goto (tgt := 13) dX4_moratorium_9 (by decide) ?_
    refine s_cv1G (n := 49) dX4_moratorium_13 rfl (kv hW.mm (by decide) rfl) rfl (by decide) (by decide) (by decide) (by decide) (Nat.le_of_ble_eq_true rfl) (m_holds0 hW) (fun r2 S2 hr2 => ?_) (fun x S2 hr => by obtain ⟨e, -⟩ := hr; cases e)
    obtain ⟨e2, hW2, hG2⟩ := hr2
    cases e2
    have hF2 := hF.tr hG2
    refine s_ifne (tgt := 21) dX4_moratorium_16 (by decide) (fun _ => ?_) (fun c => absurd c (by decide))
    refine s_aloadn dX4_moratorium_21 rfl rfl ?_
    refine s_getR (n := 83) dX4_moratorium_22 rfl hW2.mm (fun _ _ _ => rfl) (hW2.rr 22 (by decide)).1 ?_
    refine s_iloadn dX4_moratorium_25 rfl rfl ?_
    refine s_zald' (j := (ix k)) dX4_moratorium_26 ((hW2.rr 22 (by decide)).2.1) (inr_ix (isK c_5)).symm (by rw [(hW2.rr 22 (by decide)).2.2]; exact (inr_lt (isK c_5) (by decide))) (by rw [(hW2.rr 22 (by decide)).2.2]; decide) ?_
    rw [hW2.ai 22 (by decide)]
    refine s_iloadn dX4_moratorium_27 rfl rfl ?_
    refine s_iceq (tgt := 35) dX4_moratorium_28 (by decide) (fun c_28 => ?_) (fun c_28 => ?_)
    · skip
      refine s_iconst (v := 0) dX4_moratorium_35 (by decide) ?_
      refine s_istoren dX4_moratorium_36 rfl (by decide) ?_
      refine s_aloadn dX4_moratorium_37 rfl rfl ?_
      refine s_getR (n := 83) dX4_moratorium_38 rfl hW2.mm (fun _ _ _ => rfl) (hW2.rr 22 (by decide)).1 ?_
      refine s_iloadn dX4_moratorium_41 rfl rfl ?_
      refine s_iloadn dX4_moratorium_42 rfl rfl ?_
      refine s_zast' (j := (ix k)) dX4_moratorium_43 ((hW2.rr 22 (by decide)).2.1) (inr_ix (isK c_5)).symm (by rw [(hW2.rr 22 (by decide)).2.2]; exact (inr_lt (isK c_5) (by decide))) (by rw [(hW2.rr 22 (by decide)).2.2]; decide) hz ?_
      have hW3 := hW2.pai (f := 22) (by decide) (k := (ix k)) (v := z)
      have hF3 := hF2.uI (a := (w.ar 22)) (k := (ix k)) (v := z) (kd := 8) ((hW2.rr 22 (by decide)).2.1) (by decide)
      refine s_iloadn dX4_moratorium_44 rfl rfl ?_
      exact s_reti dX4_moratorium_45 rfl rfl (NI.of (F := f_X4_moratorium c k z) (x := 0) (by unfold f_X4_moratorium; rw [if_neg c_5, if_pos c_28]) hW3 hF3)
    · skip
      refine s_iconst (v := 1) dX4_moratorium_31 (by decide) ?_
      refine s_goto (tgt := 36) dX4_moratorium_32 (by decide) ?_
      refine s_istoren dX4_moratorium_36 rfl (by decide) ?_
      refine s_aloadn dX4_moratorium_37 rfl rfl ?_
      refine s_getR (n := 83) dX4_moratorium_38 rfl hW2.mm (fun _ _ _ => rfl) (hW2.rr 22 (by decide)).1 ?_
      refine s_iloadn dX4_moratorium_41 rfl rfl ?_
      refine s_iloadn dX4_moratorium_42 rfl rfl ?_
      refine s_zast' (j := (ix k)) dX4_moratorium_43 ((hW2.rr 22 (by decide)).2.1) (inr_ix (isK c_5)).symm (by rw [(hW2.rr 22 (by decide)).2.2]; exact (inr_lt (isK c_5) (by decide))) (by rw [(hW2.rr 22 (by decide)).2.2]; decide) hz ?_
      have hW4 := hW2.pai (f := 22) (by decide) (k := (ix k)) (v := z)
      have hF4 := hF2.uI (a := (w.ar 22)) (k := (ix k)) (v := z) (kd := 8) ((hW2.rr 22 (by decide)).2.1) (by decide)
      refine s_iloadn dX4_moratorium_44 rfl rfl ?_
      exact s_reti dX4_moratorium_45 rfl rfl (NI.of (F := f_X4_moratorium c k z) (x := 1) (by unfold f_X4_moratorium; rw [if_neg c_5, if_neg c_28]) hW4 hF4)
def f_X4_sue (n : Nat) (c : MC) (k : Int32) : MC := if (f_X4_isClaim c k) = 0 then (c.pti 0 1) else (if (c.ai 16 (ix k)) = 0 then (if (c.aj 17 (ix k)) ≤ 0 then (c.pti 0 2) else (if (c.ai 20 (ix k)) = 0 then ((c.pti 0 0).pai 20 (ix k) 1) else (c.pti 0 2))) else (c.pti 0 2))
set_option maxHeartbeats 4000000 in
theorem m_X4_sue {tm : Nat × Nat} {S : Sto} {w : MAd} {c : MC} {n : Nat} {k : Int32} (hW : MW S w c) (hcl : c.ti 7 = nI n) (hn : n ≤ 40)  : Ev tm M_X4_sue [.ref w.mm, .int k] S (NV w S (f_X4_sue n c k)) := by
  have hF : FrM S S := FrM.rf
  refine ev_in ok_X4_sue (Nat.le_of_ble_eq_true rfl) ?_
  refine s_aloadn dX4_sue_0 rfl rfl ?_
  refine s_iloadn dX4_sue_1 rfl rfl ?_
  refine s_cv1R (n := 51) dX4_sue_2 rfl (kv hW.mm (by decide) rfl) rfl (by decide) (by decide) (by decide) (by decide) (Nat.le_of_ble_eq_true rfl) (m_X4_isClaim hW) ?_
  refine s_istoren dX4_sue_5 rfl (by decide) ?_
  refine s_aloadn dX4_sue_6 rfl rfl ?_
  refine s_iloadn dX4_sue_7 rfl rfl ?_
  refine s_ifne (tgt := 15) dX4_sue_8 (by decide) (fun c_8 => ?_) (fun c_8 => ?_)
  · skip
    refine s_aloadn dX4_sue_15 rfl rfl ?_
    refine s_getR (n := 77) dX4_sue_16 rfl hW.mm (fun _ _ _ => rfl) (hW.rr 16 (by decide)).1 ?_
    refine s_iloadn dX4_sue_19 rfl rfl ?_
    refine s_iald' (j := (ix k)) dX4_sue_20 ((hW.rr 16 (by decide)).2.1) (inr_ix (isC hcl hn c_8)).symm (by rw [(hW.rr 16 (by decide)).2.2]; exact (Nat.lt_of_lt_of_le (inr_lt (isC hcl hn c_8) hn) hn)) (by rw [(hW.rr 16 (by decide)).2.2]; decide) ?_
    rw [hW.ai 16 (by decide)]
    refine s_ifne (tgt := 48) dX4_sue_21 (by decide) (fun c_21 => ?_) (fun c_21 => ?_)
    · skip
      refine s_iconst (v := 2) dX4_sue_48 (by decide) ?_
      refine s_cv1G (n := 49) dX4_sue_49 rfl (kv hW.mm (by decide) rfl) rfl (by decide) (by decide) (by decide) (by decide) (Nat.le_of_ble_eq_true rfl) (m_holdsP (p := 2) hW (by decide)) (fun r1 S1 hr1 => ?_) (fun x S2 hr => by obtain ⟨e, -⟩ := hr; cases e)
      obtain ⟨e1, hW1, hG1⟩ := hr1
      cases e1
      have hF1 := hF.tr hG1
      refine s_ifeq (tgt := 62) dX4_sue_52 (by decide) (fun _ => ?_) (fun c => absurd c (by decide))
      exact s_retv dX4_sue_62 rfl (NV.of (F := f_X4_sue n c k) (by unfold f_X4_sue; rw [if_neg c_8, if_neg c_21]) hW1 hF1)
    · skip
      refine s_aloadn dX4_sue_24 rfl rfl ?_
      refine s_getR (n := 78) dX4_sue_25 rfl hW.mm (fun _ _ _ => rfl) (hW.rr 17 (by decide)).1 ?_
      refine s_iloadn dX4_sue_28 rfl rfl ?_
      refine s_lald' (j := (ix k)) dX4_sue_29 (Or.inr (Or.inl (hW.rr 17 (by decide)).2.1)) (inr_ix (isC hcl hn c_8)).symm (by rw [(hW.rr 17 (by decide)).2.2]; exact (Nat.lt_of_lt_of_le (inr_lt (isC hcl hn c_8) hn) hn)) (by rw [(hW.rr 17 (by decide)).2.2]; decide) ?_
      rw [hW.aj 17 (by decide)]
      refine s_lconst (v := 0) dX4_sue_30 (by decide) ?_
      refine s_lcle (tgt := 48) dX4_sue_31 dX4_sue_32 (by decide) (fun c_31 => ?_) (fun c_31 => ?_)
      · skip
        refine s_iconst (v := 2) dX4_sue_48 (by decide) ?_
        refine s_cv1G (n := 49) dX4_sue_49 rfl (kv hW.mm (by decide) rfl) rfl (by decide) (by decide) (by decide) (by decide) (Nat.le_of_ble_eq_true rfl) (m_holdsP (p := 2) hW (by decide)) (fun r2 S2 hr2 => ?_) (fun x S2 hr => by obtain ⟨e, -⟩ := hr; cases e)
        obtain ⟨e2, hW2, hG2⟩ := hr2
        cases e2
        have hF2 := hF.tr hG2
        refine s_ifeq (tgt := 62) dX4_sue_52 (by decide) (fun _ => ?_) (fun c => absurd c (by decide))
        exact s_retv dX4_sue_62 rfl (NV.of (F := f_X4_sue n c k) (by unfold f_X4_sue; rw [if_neg c_8, if_pos c_21, if_pos c_31]) hW2 hF2)
      · skip
        refine s_aloadn dX4_sue_35 rfl rfl ?_
        refine s_getR (n := 81) dX4_sue_36 rfl hW.mm (fun _ _ _ => rfl) (hW.rr 20 (by decide)).1 ?_
        refine s_iloadn dX4_sue_39 rfl rfl ?_
        refine s_iald' (j := (ix k)) dX4_sue_40 ((hW.rr 20 (by decide)).2.1) (inr_ix (isC hcl hn c_8)).symm (by rw [(hW.rr 20 (by decide)).2.2]; exact (Nat.lt_of_lt_of_le (inr_lt (isC hcl hn c_8) hn) hn)) (by rw [(hW.rr 20 (by decide)).2.2]; decide) ?_
        rw [hW.ai 20 (by decide)]
        refine s_ifne (tgt := 48) dX4_sue_41 (by decide) (fun c_41 => ?_) (fun c_41 => ?_)
        · skip
          refine s_iconst (v := 2) dX4_sue_48 (by decide) ?_
          refine s_cv1G (n := 49) dX4_sue_49 rfl (kv hW.mm (by decide) rfl) rfl (by decide) (by decide) (by decide) (by decide) (Nat.le_of_ble_eq_true rfl) (m_holdsP (p := 2) hW (by decide)) (fun r3 S3 hr3 => ?_) (fun x S2 hr => by obtain ⟨e, -⟩ := hr; cases e)
          obtain ⟨e3, hW3, hG3⟩ := hr3
          cases e3
          have hF3 := hF.tr hG3
          refine s_ifeq (tgt := 62) dX4_sue_52 (by decide) (fun _ => ?_) (fun c => absurd c (by decide))
          exact s_retv dX4_sue_62 rfl (NV.of (F := f_X4_sue n c k) (by unfold f_X4_sue; rw [if_neg c_8, if_pos c_21, if_neg c_31, if_neg c_41]) hW3 hF3)
        · skip
          refine s_iconst (v := 0) dX4_sue_44 (by decide) ?_
          refine s_goto (tgt := 49) dX4_sue_45 (by decide) ?_
          refine s_cv1G (n := 49) dX4_sue_49 rfl (kv hW.mm (by decide) rfl) rfl (by decide) (by decide) (by decide) (by decide) (Nat.le_of_ble_eq_true rfl) (m_holds0 hW) (fun r4 S4 hr4 => ?_) (fun x S2 hr => by obtain ⟨e, -⟩ := hr; cases e)
          obtain ⟨e4, hW4, hG4⟩ := hr4
          cases e4
          have hF4 := hF.tr hG4
          refine s_ifeq (tgt := 62) dX4_sue_52 (by decide) (fun c => absurd c (by decide)) (fun _ => ?_)
          refine s_aloadn dX4_sue_55 rfl rfl ?_
          refine s_getR (n := 81) dX4_sue_56 rfl hW4.mm (fun _ _ _ => rfl) (hW4.rr 20 (by decide)).1 ?_
          refine s_iloadn dX4_sue_59 rfl rfl ?_
          refine s_iconst (v := 1) dX4_sue_60 (by decide) ?_
          refine s_iast' (j := (ix k)) dX4_sue_61 ((hW4.rr 20 (by decide)).2.1) (inr_ix (isC hcl hn c_8)).symm (by rw [(hW4.rr 20 (by decide)).2.2]; exact (Nat.lt_of_lt_of_le (inr_lt (isC hcl hn c_8) hn) hn)) (by rw [(hW4.rr 20 (by decide)).2.2]; decide) ?_
          have hW5 := hW4.pai (f := 20) (by decide) (k := (ix k)) (v := 1)
          have hF5 := hF4.uI (a := (w.ar 20)) (k := (ix k)) (v := 1) (kd := 6) ((hW4.rr 20 (by decide)).2.1) (by decide)
          exact s_retv dX4_sue_62 rfl (NV.of (F := f_X4_sue n c k) (by unfold f_X4_sue; rw [if_neg c_8, if_pos c_21, if_neg c_31, if_pos c_41]) hW5 hF5)
  · skip
    refine s_iconst (v := 1) dX4_sue_11 (by decide) ?_
    refine s_goto (tgt := 49) dX4_sue_12 (by decide) ?_
    refine s_cv1G (n := 49) dX4_sue_49 rfl (kv hW.mm (by decide) rfl) rfl (by decide) (by decide) (by decide) (by decide) (Nat.le_of_ble_eq_true rfl) (m_holdsP (p := 1) hW (by decide)) (fun r6 S6 hr6 => ?_) (fun x S2 hr => by obtain ⟨e, -⟩ := hr; cases e)
    obtain ⟨e6, hW6, hG6⟩ := hr6
    cases e6
    have hF6 := hF.tr hG6
    refine s_ifeq (tgt := 62) dX4_sue_52 (by decide) (fun _ => ?_) (fun c => absurd c (by decide))
    exact s_retv dX4_sue_62 rfl (NV.of (F := f_X4_sue n c k) (by unfold f_X4_sue; rw [if_pos c_8]) hW6 hF6)
def f_X4_assure (c : MC) (k z : Int32) : Int32 × MC := if (f_X4_isIn k 0 7) = 0 then (0, (c.pti 0 1)) else (if (c.ai 37 (ix k)) = z then (0, ((c.pti 0 0).pai 37 (ix k) z)) else (1, ((c.pti 0 0).pai 37 (ix k) z)))
set_option maxHeartbeats 4000000 in
theorem m_X4_assure {tm : Nat × Nat} {S : Sto} {w : MAd} {c : MC} {k z : Int32} (hW : MW S w c)  (hz : z = 0 ∨ z = 1) : Ev tm M_X4_assure [.ref w.mm, .int k, .int z] S (NI w S (f_X4_assure c k z)) := by
  have hF : FrM S S := FrM.rf
  refine ev_in ok_X4_assure (Nat.le_of_ble_eq_true rfl) ?_
  refine s_aloadn dX4_assure_0 rfl rfl ?_
  refine s_iloadn dX4_assure_1 rfl rfl ?_
  refine s_iconst (v := 0) dX4_assure_2 (by decide) ?_
  refine s_bipush (v := 7) dX4_assure_3 (by decide) ?_
  refine s_cs3R (n := 23) dX4_assure_5 rfl rfl (by decide) (by decide) (by decide) (by decide) (Nat.le_of_ble_eq_true rfl) (m_X4_isIn) ?_
  refine s_ifeq (tgt := 15) dX4_assure_8 (by decide) (fun c_8 => ?_) (fun c_8 => ?_)
  · skip
    refine s_iconst (v := 1) dX4_assure_15 (by decide) ?_
    refine s_cv1G (n := 49) dX4_assure_16 rfl (kv hW.mm (by decide) rfl) rfl (by decide) (by decide) (by decide) (by decide) (Nat.le_of_ble_eq_true rfl) (m_holdsP (p := 1) hW (by decide)) (fun r1 S1 hr1 => ?_) (fun x S2 hr => by obtain ⟨e, -⟩ := hr; cases e)
    obtain ⟨e1, hW1, hG1⟩ := hr1
    cases e1
    have hF1 := hF.tr hG1
    refine s_ifne (tgt := 24) dX4_assure_19 (by decide) (fun c => absurd c (by decide)) (fun _ => ?_)
    refine s_iconst (v := 0) dX4_assure_22 (by decide) ?_
    exact s_reti dX4_assure_23 rfl rfl (NI.of (F := f_X4_assure c k z) (x := 0) (by unfold f_X4_assure; rw [if_pos c_8]) hW1 hF1)
  · skip
    refine s_iconst (v := 0) dX4_assure_11 (by decide) ?_
    refine s_goto (tgt := 16) dX4_assure_12 (by decide) ?_
    refine s_cv1G (n := 49) dX4_assure_16 rfl (kv hW.mm (by decide) rfl) rfl (by decide) (by decide) (by decide) (by decide) (Nat.le_of_ble_eq_true rfl) (m_holds0 hW) (fun r2 S2 hr2 => ?_) (fun x S2 hr => by obtain ⟨e, -⟩ := hr; cases e)
    obtain ⟨e2, hW2, hG2⟩ := hr2
    cases e2
    have hF2 := hF.tr hG2
    refine s_ifne (tgt := 24) dX4_assure_19 (by decide) (fun _ => ?_) (fun c => absurd c (by decide))
    refine s_aloadn dX4_assure_24 rfl rfl ?_
    refine s_getR (n := 98) dX4_assure_25 rfl hW2.mm (fun _ _ _ => rfl) (hW2.rr 37 (by decide)).1 ?_
    refine s_iloadn dX4_assure_28 rfl rfl ?_
    refine s_zald' (j := (ix k)) dX4_assure_29 ((hW2.rr 37 (by decide)).2.1) (inr_ix (isL c_8)).symm (by rw [(hW2.rr 37 (by decide)).2.2]; exact (inr_lt (isL c_8) (by decide))) (by rw [(hW2.rr 37 (by decide)).2.2]; decide) ?_
    rw [hW2.ai 37 (by decide)]
    refine s_iloadn dX4_assure_30 rfl rfl ?_
    refine s_iceq (tgt := 38) dX4_assure_31 (by decide) (fun c_31 => ?_) (fun c_31 => ?_)
    · skip
      refine s_iconst (v := 0) dX4_assure_38 (by decide) ?_
      refine s_istoren dX4_assure_39 rfl (by decide) ?_
      refine s_aloadn dX4_assure_40 rfl rfl ?_
      refine s_getR (n := 98) dX4_assure_41 rfl hW2.mm (fun _ _ _ => rfl) (hW2.rr 37 (by decide)).1 ?_
      refine s_iloadn dX4_assure_44 rfl rfl ?_
      refine s_iloadn dX4_assure_45 rfl rfl ?_
      refine s_zast' (j := (ix k)) dX4_assure_46 ((hW2.rr 37 (by decide)).2.1) (inr_ix (isL c_8)).symm (by rw [(hW2.rr 37 (by decide)).2.2]; exact (inr_lt (isL c_8) (by decide))) (by rw [(hW2.rr 37 (by decide)).2.2]; decide) hz ?_
      have hW3 := hW2.pai (f := 37) (by decide) (k := (ix k)) (v := z)
      have hF3 := hF2.uI (a := (w.ar 37)) (k := (ix k)) (v := z) (kd := 8) ((hW2.rr 37 (by decide)).2.1) (by decide)
      refine s_iloadn dX4_assure_47 rfl rfl ?_
      exact s_reti dX4_assure_48 rfl rfl (NI.of (F := f_X4_assure c k z) (x := 0) (by unfold f_X4_assure; rw [if_neg c_8, if_pos c_31]) hW3 hF3)
    · skip
      refine s_iconst (v := 1) dX4_assure_34 (by decide) ?_
      refine s_goto (tgt := 39) dX4_assure_35 (by decide) ?_
      refine s_istoren dX4_assure_39 rfl (by decide) ?_
      refine s_aloadn dX4_assure_40 rfl rfl ?_
      refine s_getR (n := 98) dX4_assure_41 rfl hW2.mm (fun _ _ _ => rfl) (hW2.rr 37 (by decide)).1 ?_
      refine s_iloadn dX4_assure_44 rfl rfl ?_
      refine s_iloadn dX4_assure_45 rfl rfl ?_
      refine s_zast' (j := (ix k)) dX4_assure_46 ((hW2.rr 37 (by decide)).2.1) (inr_ix (isL c_8)).symm (by rw [(hW2.rr 37 (by decide)).2.2]; exact (inr_lt (isL c_8) (by decide))) (by rw [(hW2.rr 37 (by decide)).2.2]; decide) hz ?_
      have hW4 := hW2.pai (f := 37) (by decide) (k := (ix k)) (v := z)
      have hF4 := hF2.uI (a := (w.ar 37)) (k := (ix k)) (v := z) (kd := 8) ((hW2.rr 37 (by decide)).2.1) (by decide)
      refine s_iloadn dX4_assure_47 rfl rfl ?_
      exact s_reti dX4_assure_48 rfl rfl (NI.of (F := f_X4_assure c k z) (x := 1) (by unfold f_X4_assure; rw [if_neg c_8, if_neg c_31]) hW4 hF4)
def f_X4_paidAnew (n : Nat) (c : MC) (k : Int32) : Int64 × MC := if (f_X4_isClaim c k) = 0 then (0, (c.pti 0 1)) else ((c.aj 19 (ix k)), (c.pti 0 0))
set_option maxHeartbeats 4000000 in
theorem m_X4_paidAnew {tm : Nat × Nat} {S : Sto} {w : MAd} {c : MC} {n : Nat} {k : Int32} (hW : MW S w c) (hcl : c.ti 7 = nI n) (hn : n ≤ 40)  : Ev tm M_X4_paidAnew [.ref w.mm, .int k] S (NJ w S (f_X4_paidAnew n c k)) := by
  have hF : FrM S S := FrM.rf
  refine ev_in ok_X4_paidAnew (Nat.le_of_ble_eq_true rfl) ?_
  refine s_aloadn dX4_paidAnew_0 rfl rfl ?_
  refine s_aloadn dX4_paidAnew_1 rfl rfl ?_
  refine s_iloadn dX4_paidAnew_2 rfl rfl ?_
  refine s_cv1R (n := 51) dX4_paidAnew_3 rfl (kv hW.mm (by decide) rfl) rfl (by decide) (by decide) (by decide) (by decide) (Nat.le_of_ble_eq_true rfl) (m_X4_isClaim hW) ?_
  refine s_ifeq (tgt := 13) dX4_paidAnew_6 (by decide) (fun c_6 => ?_) (fun c_6 => ?_)
  · skip
    refine s_iconst (v := 1) dX4_paidAnew_13 (by decide) ?_
    refine s_cv1G (n := 49) dX4_paidAnew_14 rfl (kv hW.mm (by decide) rfl) rfl (by decide) (by decide) (by decide) (by decide) (Nat.le_of_ble_eq_true rfl) (m_holdsP (p := 1) hW (by decide)) (fun r1 S1 hr1 => ?_) (fun x S2 hr => by obtain ⟨e, -⟩ := hr; cases e)
    obtain ⟨e1, hW1, hG1⟩ := hr1
    cases e1
    have hF1 := hF.tr hG1
    refine s_ifeq (tgt := 29) dX4_paidAnew_17 (by decide) (fun _ => ?_) (fun c => absurd c (by decide))
    refine s_lconst (v := 0) dX4_paidAnew_29 (by decide) ?_
    exact s_retl dX4_paidAnew_30 rfl (NJ.of (F := f_X4_paidAnew n c k) (x := 0) (by unfold f_X4_paidAnew; rw [if_pos c_6]) hW1 hF1)
  · skip
    refine s_iconst (v := 0) dX4_paidAnew_9 (by decide) ?_
    refine s_goto (tgt := 14) dX4_paidAnew_10 (by decide) ?_
    refine s_cv1G (n := 49) dX4_paidAnew_14 rfl (kv hW.mm (by decide) rfl) rfl (by decide) (by decide) (by decide) (by decide) (Nat.le_of_ble_eq_true rfl) (m_holds0 hW) (fun r2 S2 hr2 => ?_) (fun x S2 hr => by obtain ⟨e, -⟩ := hr; cases e)
    obtain ⟨e2, hW2, hG2⟩ := hr2
    cases e2
    have hF2 := hF.tr hG2
    refine s_ifeq (tgt := 29) dX4_paidAnew_17 (by decide) (fun c => absurd c (by decide)) (fun _ => ?_)
    refine s_aloadn dX4_paidAnew_20 rfl rfl ?_
    refine s_getR (n := 80) dX4_paidAnew_21 rfl hW2.mm (fun _ _ _ => rfl) (hW2.rr 19 (by decide)).1 ?_
    refine s_iloadn dX4_paidAnew_24 rfl rfl ?_
    refine s_lald' (j := (ix k)) dX4_paidAnew_25 (Or.inr (Or.inl (hW2.rr 19 (by decide)).2.1)) (inr_ix (isC hcl hn c_6)).symm (by rw [(hW2.rr 19 (by decide)).2.2]; exact (Nat.lt_of_lt_of_le (inr_lt (isC hcl hn c_6) hn) hn)) (by rw [(hW2.rr 19 (by decide)).2.2]; decide) ?_
    rw [hW2.aj 19 (by decide)]
    refine s_goto (tgt := 30) dX4_paidAnew_26 (by decide) ?_
    exact s_retl dX4_paidAnew_30 rfl (NJ.of (F := f_X4_paidAnew n c k) (x := (c.aj 19 (ix k))) (by unfold f_X4_paidAnew; rw [if_neg c_6]) hW2 hF2)
def f_X4_ofClaim (n : Nat) (c : MC) (k q : Int32) : Int64 × MC := if (f_X4_isClaim c k) = 0 then (0, (c.pti 0 1)) else (if (f_X4_isIn q 0 7) = 0 then (0, (c.pti 0 2)) else (if 4 ≤ q then (if q = 4 then ((c.aj 19 (ix k)), (c.pti 0 0)) else (if q = 5 then ((c.aj 18 (ix k)), (c.pti 0 0)) else (if q = 6 then (((c.ai 20 (ix k)) : Int32).toInt64, (c.pti 0 0)) else (((c.ai 21 (ix k)) : Int32).toInt64, (c.pti 0 0))))) else (if q = 0 then (((c.ai 16 (ix k)) : Int32).toInt64, (c.pti 0 0)) else (if q = 1 then ((c.aj 10 (ix k)), (c.pti 0 0)) else (if q = 2 then ((c.aj 17 (ix k)), (c.pti 0 0)) else (((c.ai 12 (ix k)) : Int32).toInt64, (c.pti 0 0)))))))
set_option maxHeartbeats 4000000 in
theorem m_X4_ofClaim {tm : Nat × Nat} {S : Sto} {w : MAd} {c : MC} {n : Nat} {k q : Int32} (hW : MW S w c) (hcl : c.ti 7 = nI n) (hn : n ≤ 40)  : Ev tm M_X4_ofClaim [.ref w.mm, .int k, .int q] S (NJ w S (f_X4_ofClaim n c k q)) := by
  have hF : FrM S S := FrM.rf
  refine ev_in ok_X4_ofClaim (Nat.le_of_ble_eq_true rfl) ?_
  refine s_aloadn dX4_ofClaim_0 rfl rfl ?_
  refine s_aloadn dX4_ofClaim_1 rfl rfl ?_
  refine s_iloadn dX4_ofClaim_2 rfl rfl ?_
  refine s_cv1R (n := 51) dX4_ofClaim_3 rfl (kv hW.mm (by decide) rfl) rfl (by decide) (by decide) (by decide) (by decide) (Nat.le_of_ble_eq_true rfl) (m_X4_isClaim hW) ?_
  refine s_ifne (tgt := 13) dX4_ofClaim_6 (by decide) (fun c_6 => ?_) (fun c_6 => ?_)
  · skip
    refine s_iloadn dX4_ofClaim_13 rfl rfl ?_
    refine s_iconst (v := 0) dX4_ofClaim_14 (by decide) ?_
    refine s_bipush (v := 7) dX4_ofClaim_15 (by decide) ?_
    refine s_cs3R (n := 23) dX4_ofClaim_17 rfl rfl (by decide) (by decide) (by decide) (by decide) (Nat.le_of_ble_eq_true rfl) (m_X4_isIn) ?_
    refine s_ifeq (tgt := 27) dX4_ofClaim_20 (by decide) (fun c_20 => ?_) (fun c_20 => ?_)
    · skip
      refine s_iconst (v := 2) dX4_ofClaim_27 (by decide) ?_
      refine s_cv1G (n := 49) dX4_ofClaim_28 rfl (kv hW.mm (by decide) rfl) rfl (by decide) (by decide) (by decide) (by decide) (Nat.le_of_ble_eq_true rfl) (m_holdsP (p := 2) hW (by decide)) (fun r1 S1 hr1 => ?_) (fun x S2 hr => by obtain ⟨e, -⟩ := hr; cases e)
      obtain ⟨e1, hW1, hG1⟩ := hr1
      cases e1
      have hF1 := hF.tr hG1
      refine s_ifne (tgt := 36) dX4_ofClaim_31 (by decide) (fun c => absurd c (by decide)) (fun _ => ?_)
      refine s_lconst (v := 0) dX4_ofClaim_34 (by decide) ?_
      exact s_retl dX4_ofClaim_35 rfl (NJ.of (F := f_X4_ofClaim n c k q) (x := 0) (by unfold f_X4_ofClaim; rw [if_neg c_6, if_pos c_20]) hW1 hF1)
    · skip
      refine s_iconst (v := 0) dX4_ofClaim_23 (by decide) ?_
      refine s_goto (tgt := 28) dX4_ofClaim_24 (by decide) ?_
      refine s_cv1G (n := 49) dX4_ofClaim_28 rfl (kv hW.mm (by decide) rfl) rfl (by decide) (by decide) (by decide) (by decide) (Nat.le_of_ble_eq_true rfl) (m_holds0 hW) (fun r2 S2 hr2 => ?_) (fun x S2 hr => by obtain ⟨e, -⟩ := hr; cases e)
      obtain ⟨e2, hW2, hG2⟩ := hr2
      cases e2
      have hF2 := hF.tr hG2
      refine s_ifne (tgt := 36) dX4_ofClaim_31 (by decide) (fun _ => ?_) (fun c => absurd c (by decide))
      refine s_iloadn dX4_ofClaim_36 rfl rfl ?_
      refine s_iconst (v := 4) dX4_ofClaim_37 (by decide) ?_
      refine s_icge (tgt := 91) dX4_ofClaim_38 (by decide) (fun c_38 => ?_) (fun c_38 => ?_)
      · skip
        refine s_iloadn dX4_ofClaim_91 rfl rfl ?_
        refine s_iconst (v := 4) dX4_ofClaim_92 (by decide) ?_
        refine s_icne (tgt := 105) dX4_ofClaim_93 (by decide) (fun c_93 => ?_) (fun c_93 => ?_)
        · skip
          refine s_iloadn dX4_ofClaim_105 rfl rfl ?_
          refine s_iconst (v := 5) dX4_ofClaim_106 (by decide) ?_
          refine s_icne (tgt := 119) dX4_ofClaim_107 (by decide) (fun c_107 => ?_) (fun c_107 => ?_)
          · skip
            refine s_iloadn dX4_ofClaim_119 rfl rfl ?_
            refine s_bipush (v := 6) dX4_ofClaim_120 (by decide) ?_
            refine s_icne (tgt := 135) dX4_ofClaim_122 (by decide) (fun c_122 => ?_) (fun c_122 => ?_)
            · skip
              refine s_aloadn dX4_ofClaim_135 rfl rfl ?_
              refine s_getR (n := 82) dX4_ofClaim_136 rfl hW2.mm (fun _ _ _ => rfl) (hW2.rr 21 (by decide)).1 ?_
              refine s_iloadn dX4_ofClaim_139 rfl rfl ?_
              refine s_iald' (j := (ix k)) dX4_ofClaim_140 ((hW2.rr 21 (by decide)).2.1) (inr_ix (isC hcl hn c_6)).symm (by rw [(hW2.rr 21 (by decide)).2.2]; exact (Nat.lt_of_lt_of_le (inr_lt (isC hcl hn c_6) hn) hn)) (by rw [(hW2.rr 21 (by decide)).2.2]; decide) ?_
              rw [hW2.ai 21 (by decide)]
              refine s_i2l dX4_ofClaim_141 ?_
              exact s_retl dX4_ofClaim_142 rfl (NJ.of (F := f_X4_ofClaim n c k q) (x := ((c.ai 21 (ix k)) : Int32).toInt64) (by unfold f_X4_ofClaim; rw [if_neg c_6, if_neg c_20, if_pos c_38, if_neg c_93, if_neg c_107, if_neg c_122]) hW2 hF2)
            · skip
              refine s_aloadn dX4_ofClaim_125 rfl rfl ?_
              refine s_getR (n := 81) dX4_ofClaim_126 rfl hW2.mm (fun _ _ _ => rfl) (hW2.rr 20 (by decide)).1 ?_
              refine s_iloadn dX4_ofClaim_129 rfl rfl ?_
              refine s_iald' (j := (ix k)) dX4_ofClaim_130 ((hW2.rr 20 (by decide)).2.1) (inr_ix (isC hcl hn c_6)).symm (by rw [(hW2.rr 20 (by decide)).2.2]; exact (Nat.lt_of_lt_of_le (inr_lt (isC hcl hn c_6) hn) hn)) (by rw [(hW2.rr 20 (by decide)).2.2]; decide) ?_
              rw [hW2.ai 20 (by decide)]
              refine s_i2l dX4_ofClaim_131 ?_
              refine s_goto (tgt := 142) dX4_ofClaim_132 (by decide) ?_
              exact s_retl dX4_ofClaim_142 rfl (NJ.of (F := f_X4_ofClaim n c k q) (x := ((c.ai 20 (ix k)) : Int32).toInt64) (by unfold f_X4_ofClaim; rw [if_neg c_6, if_neg c_20, if_pos c_38, if_neg c_93, if_neg c_107, if_pos c_122]) hW2 hF2)
          · skip
            refine s_aloadn dX4_ofClaim_110 rfl rfl ?_
            refine s_getR (n := 79) dX4_ofClaim_111 rfl hW2.mm (fun _ _ _ => rfl) (hW2.rr 18 (by decide)).1 ?_
            refine s_iloadn dX4_ofClaim_114 rfl rfl ?_
            refine s_lald' (j := (ix k)) dX4_ofClaim_115 (Or.inr (Or.inl (hW2.rr 18 (by decide)).2.1)) (inr_ix (isC hcl hn c_6)).symm (by rw [(hW2.rr 18 (by decide)).2.2]; exact (Nat.lt_of_lt_of_le (inr_lt (isC hcl hn c_6) hn) hn)) (by rw [(hW2.rr 18 (by decide)).2.2]; decide) ?_
            rw [hW2.aj 18 (by decide)]
            refine s_goto (tgt := 142) dX4_ofClaim_116 (by decide) ?_
            exact s_retl dX4_ofClaim_142 rfl (NJ.of (F := f_X4_ofClaim n c k q) (x := (c.aj 18 (ix k))) (by unfold f_X4_ofClaim; rw [if_neg c_6, if_neg c_20, if_pos c_38, if_neg c_93, if_pos c_107]) hW2 hF2)
        · skip
          refine s_aloadn dX4_ofClaim_96 rfl rfl ?_
          refine s_getR (n := 80) dX4_ofClaim_97 rfl hW2.mm (fun _ _ _ => rfl) (hW2.rr 19 (by decide)).1 ?_
          refine s_iloadn dX4_ofClaim_100 rfl rfl ?_
          refine s_lald' (j := (ix k)) dX4_ofClaim_101 (Or.inr (Or.inl (hW2.rr 19 (by decide)).2.1)) (inr_ix (isC hcl hn c_6)).symm (by rw [(hW2.rr 19 (by decide)).2.2]; exact (Nat.lt_of_lt_of_le (inr_lt (isC hcl hn c_6) hn) hn)) (by rw [(hW2.rr 19 (by decide)).2.2]; decide) ?_
          rw [hW2.aj 19 (by decide)]
          refine s_goto (tgt := 142) dX4_ofClaim_102 (by decide) ?_
          exact s_retl dX4_ofClaim_142 rfl (NJ.of (F := f_X4_ofClaim n c k q) (x := (c.aj 19 (ix k))) (by unfold f_X4_ofClaim; rw [if_neg c_6, if_neg c_20, if_pos c_38, if_pos c_93]) hW2 hF2)
      · skip
        refine s_iloadn dX4_ofClaim_41 rfl rfl ?_
        refine s_ifne (tgt := 55) dX4_ofClaim_42 (by decide) (fun c_42 => ?_) (fun c_42 => ?_)
        · skip
          refine s_iloadn dX4_ofClaim_55 rfl rfl ?_
          refine s_iconst (v := 1) dX4_ofClaim_56 (by decide) ?_
          refine s_icne (tgt := 69) dX4_ofClaim_57 (by decide) (fun c_57 => ?_) (fun c_57 => ?_)
          · skip
            refine s_iloadn dX4_ofClaim_69 rfl rfl ?_
            refine s_iconst (v := 2) dX4_ofClaim_70 (by decide) ?_
            refine s_icne (tgt := 83) dX4_ofClaim_71 (by decide) (fun c_71 => ?_) (fun c_71 => ?_)
            · skip
              refine s_aloadn dX4_ofClaim_83 rfl rfl ?_
              refine s_getR (n := 73) dX4_ofClaim_84 rfl hW2.mm (fun _ _ _ => rfl) (hW2.rr 12 (by decide)).1 ?_
              refine s_iloadn dX4_ofClaim_87 rfl rfl ?_
              refine s_iald' (j := (ix k)) dX4_ofClaim_88 ((hW2.rr 12 (by decide)).2.1) (inr_ix (isC hcl hn c_6)).symm (by rw [(hW2.rr 12 (by decide)).2.2]; exact (Nat.lt_of_lt_of_le (inr_lt (isC hcl hn c_6) hn) hn)) (by rw [(hW2.rr 12 (by decide)).2.2]; decide) ?_
              rw [hW2.ai 12 (by decide)]
              refine s_i2l dX4_ofClaim_89 ?_
              exact s_retl dX4_ofClaim_90 rfl (NJ.of (F := f_X4_ofClaim n c k q) (x := ((c.ai 12 (ix k)) : Int32).toInt64) (by unfold f_X4_ofClaim; rw [if_neg c_6, if_neg c_20, if_neg c_38, if_neg c_42, if_neg c_57, if_neg c_71]) hW2 hF2)
            · skip
              refine s_aloadn dX4_ofClaim_74 rfl rfl ?_
              refine s_getR (n := 78) dX4_ofClaim_75 rfl hW2.mm (fun _ _ _ => rfl) (hW2.rr 17 (by decide)).1 ?_
              refine s_iloadn dX4_ofClaim_78 rfl rfl ?_
              refine s_lald' (j := (ix k)) dX4_ofClaim_79 (Or.inr (Or.inl (hW2.rr 17 (by decide)).2.1)) (inr_ix (isC hcl hn c_6)).symm (by rw [(hW2.rr 17 (by decide)).2.2]; exact (Nat.lt_of_lt_of_le (inr_lt (isC hcl hn c_6) hn) hn)) (by rw [(hW2.rr 17 (by decide)).2.2]; decide) ?_
              rw [hW2.aj 17 (by decide)]
              refine s_goto (tgt := 90) dX4_ofClaim_80 (by decide) ?_
              exact s_retl dX4_ofClaim_90 rfl (NJ.of (F := f_X4_ofClaim n c k q) (x := (c.aj 17 (ix k))) (by unfold f_X4_ofClaim; rw [if_neg c_6, if_neg c_20, if_neg c_38, if_neg c_42, if_neg c_57, if_pos c_71]) hW2 hF2)
          · skip
            refine s_aloadn dX4_ofClaim_60 rfl rfl ?_
            refine s_getR (n := 71) dX4_ofClaim_61 rfl hW2.mm (fun _ _ _ => rfl) (hW2.rr 10 (by decide)).1 ?_
            refine s_iloadn dX4_ofClaim_64 rfl rfl ?_
            refine s_lald' (j := (ix k)) dX4_ofClaim_65 (Or.inr (Or.inl (hW2.rr 10 (by decide)).2.1)) (inr_ix (isC hcl hn c_6)).symm (by rw [(hW2.rr 10 (by decide)).2.2]; exact (Nat.lt_of_lt_of_le (inr_lt (isC hcl hn c_6) hn) hn)) (by rw [(hW2.rr 10 (by decide)).2.2]; decide) ?_
            rw [hW2.aj 10 (by decide)]
            refine s_goto (tgt := 90) dX4_ofClaim_66 (by decide) ?_
            exact s_retl dX4_ofClaim_90 rfl (NJ.of (F := f_X4_ofClaim n c k q) (x := (c.aj 10 (ix k))) (by unfold f_X4_ofClaim; rw [if_neg c_6, if_neg c_20, if_neg c_38, if_neg c_42, if_pos c_57]) hW2 hF2)
        · skip
          refine s_aloadn dX4_ofClaim_45 rfl rfl ?_
          refine s_getR (n := 77) dX4_ofClaim_46 rfl hW2.mm (fun _ _ _ => rfl) (hW2.rr 16 (by decide)).1 ?_
          refine s_iloadn dX4_ofClaim_49 rfl rfl ?_
          refine s_iald' (j := (ix k)) dX4_ofClaim_50 ((hW2.rr 16 (by decide)).2.1) (inr_ix (isC hcl hn c_6)).symm (by rw [(hW2.rr 16 (by decide)).2.2]; exact (Nat.lt_of_lt_of_le (inr_lt (isC hcl hn c_6) hn) hn)) (by rw [(hW2.rr 16 (by decide)).2.2]; decide) ?_
          rw [hW2.ai 16 (by decide)]
          refine s_i2l dX4_ofClaim_51 ?_
          refine s_goto (tgt := 90) dX4_ofClaim_52 (by decide) ?_
          exact s_retl dX4_ofClaim_90 rfl (NJ.of (F := f_X4_ofClaim n c k q) (x := ((c.ai 16 (ix k)) : Int32).toInt64) (by unfold f_X4_ofClaim; rw [if_neg c_6, if_neg c_20, if_neg c_38, if_pos c_42]) hW2 hF2)
  · skip
    refine s_iconst (v := 1) dX4_ofClaim_9 (by decide) ?_
    refine s_goto (tgt := 28) dX4_ofClaim_10 (by decide) ?_
    refine s_cv1G (n := 49) dX4_ofClaim_28 rfl (kv hW.mm (by decide) rfl) rfl (by decide) (by decide) (by decide) (by decide) (Nat.le_of_ble_eq_true rfl) (m_holdsP (p := 1) hW (by decide)) (fun r3 S3 hr3 => ?_) (fun x S2 hr => by obtain ⟨e, -⟩ := hr; cases e)
    obtain ⟨e3, hW3, hG3⟩ := hr3
    cases e3
    have hF3 := hF.tr hG3
    refine s_ifne (tgt := 36) dX4_ofClaim_31 (by decide) (fun c => absurd c (by decide)) (fun _ => ?_)
    refine s_lconst (v := 0) dX4_ofClaim_34 (by decide) ?_
    exact s_retl dX4_ofClaim_35 rfl (NJ.of (F := f_X4_ofClaim n c k q) (x := 0) (by unfold f_X4_ofClaim; rw [if_pos c_6]) hW3 hF3)
def f_X4_ofState (n : Nat) (c : MC) (q : Int32) : Int64 × MC := if (f_X4_isIn q 0 4) = 0 then (0, (c.pti 0 1)) else (if q = 0 then (((c.ti 1) : Int32).toInt64, (c.pti 0 0)) else (if q = 1 then ((c.tj 2), (c.pti 0 0)) else (if q = 2 then ((c.tj 3), (c.pti 0 0)) else (if q = 3 then ((f_X4_debt n (c.pti 0 0)), (c.pti 0 0)) else (((c.ti 36) : Int32).toInt64, (c.pti 0 0))))))
set_option maxHeartbeats 4000000 in
theorem m_X4_ofState {tm : Nat × Nat} {S : Sto} {w : MAd} {c : MC} {n : Nat} {q : Int32} (hW : MW S w c) (hcl : c.ti 7 = nI n) (hn : n ≤ 40)  : Ev tm M_X4_ofState [.ref w.mm, .int q] S (NJ w S (f_X4_ofState n c q)) := by
  have hF : FrM S S := FrM.rf
  refine ev_in ok_X4_ofState (Nat.le_of_ble_eq_true rfl) ?_
  refine s_aloadn dX4_ofState_0 rfl rfl ?_
  refine s_iloadn dX4_ofState_1 rfl rfl ?_
  refine s_iconst (v := 0) dX4_ofState_2 (by decide) ?_
  refine s_iconst (v := 4) dX4_ofState_3 (by decide) ?_
  refine s_cs3R (n := 23) dX4_ofState_4 rfl rfl (by decide) (by decide) (by decide) (by decide) (Nat.le_of_ble_eq_true rfl) (m_X4_isIn) ?_
  refine s_ifeq (tgt := 14) dX4_ofState_7 (by decide) (fun c_7 => ?_) (fun c_7 => ?_)
  · skip
    refine s_iconst (v := 1) dX4_ofState_14 (by decide) ?_
    refine s_cv1G (n := 49) dX4_ofState_15 rfl (kv hW.mm (by decide) rfl) rfl (by decide) (by decide) (by decide) (by decide) (Nat.le_of_ble_eq_true rfl) (m_holdsP (p := 1) hW (by decide)) (fun r1 S1 hr1 => ?_) (fun x S2 hr => by obtain ⟨e, -⟩ := hr; cases e)
    obtain ⟨e1, hW1, hG1⟩ := hr1
    cases e1
    have hF1 := hF.tr hG1
    refine s_ifne (tgt := 23) dX4_ofState_18 (by decide) (fun c => absurd c (by decide)) (fun _ => ?_)
    refine s_lconst (v := 0) dX4_ofState_21 (by decide) ?_
    exact s_retl dX4_ofState_22 rfl (NJ.of (F := f_X4_ofState n c q) (x := 0) (by unfold f_X4_ofState; rw [if_pos c_7]) hW1 hF1)
  · skip
    refine s_iconst (v := 0) dX4_ofState_10 (by decide) ?_
    refine s_goto (tgt := 15) dX4_ofState_11 (by decide) ?_
    refine s_cv1G (n := 49) dX4_ofState_15 rfl (kv hW.mm (by decide) rfl) rfl (by decide) (by decide) (by decide) (by decide) (Nat.le_of_ble_eq_true rfl) (m_holds0 hW) (fun r2 S2 hr2 => ?_) (fun x S2 hr => by obtain ⟨e, -⟩ := hr; cases e)
    obtain ⟨e2, hW2, hG2⟩ := hr2
    cases e2
    have hF2 := hF.tr hG2
    refine s_ifne (tgt := 23) dX4_ofState_18 (by decide) (fun _ => ?_) (fun c => absurd c (by decide))
    refine s_iloadn dX4_ofState_23 rfl rfl ?_
    refine s_ifne (tgt := 35) dX4_ofState_24 (by decide) (fun c_24 => ?_) (fun c_24 => ?_)
    · skip
      refine s_iloadn dX4_ofState_35 rfl rfl ?_
      refine s_iconst (v := 1) dX4_ofState_36 (by decide) ?_
      refine s_icne (tgt := 47) dX4_ofState_37 (by decide) (fun c_37 => ?_) (fun c_37 => ?_)
      · skip
        refine s_iloadn dX4_ofState_47 rfl rfl ?_
        refine s_iconst (v := 2) dX4_ofState_48 (by decide) ?_
        refine s_icne (tgt := 59) dX4_ofState_49 (by decide) (fun c_49 => ?_) (fun c_49 => ?_)
        · skip
          refine s_iloadn dX4_ofState_59 rfl rfl ?_
          refine s_iconst (v := 3) dX4_ofState_60 (by decide) ?_
          refine s_icne (tgt := 71) dX4_ofState_61 (by decide) (fun c_61 => ?_) (fun c_61 => ?_)
          · skip
            refine s_aloadn dX4_ofState_71 rfl rfl ?_
            refine s_get (v := .int (c.ti 36)) (n := 97) dX4_ofState_72 rfl hW2.mm (congrArg Value.int (congrFun hW2.ti 36)) ?_
            refine s_i2l dX4_ofState_75 ?_
            exact s_retl dX4_ofState_76 rfl (NJ.of (F := f_X4_ofState n c q) (x := ((c.ti 36) : Int32).toInt64) (by unfold f_X4_ofState; rw [if_neg c_7, if_neg c_24, if_neg c_37, if_neg c_49, if_neg c_61]) hW2 hF2)
          · skip
            refine s_aloadn dX4_ofState_64 rfl rfl ?_
            refine s_cv0R (n := 53) dX4_ofState_65 rfl (kv hW2.mm (by decide) rfl) rfl (by decide) (by decide) (by decide) (by decide) (Nat.le_of_ble_eq_true rfl) (m_X4_debt hW2 hcl hn) ?_
            refine s_goto (tgt := 76) dX4_ofState_68 (by decide) ?_
            exact s_retl dX4_ofState_76 rfl (NJ.of (F := f_X4_ofState n c q) (x := (f_X4_debt n (c.pti 0 0))) (by unfold f_X4_ofState; rw [if_neg c_7, if_neg c_24, if_neg c_37, if_neg c_49, if_pos c_61]) hW2 hF2)
        · skip
          refine s_aloadn dX4_ofState_52 rfl rfl ?_
          refine s_get (v := .long (c.tj 3)) (n := 64) dX4_ofState_53 rfl hW2.mm (congrArg Value.long (congrFun hW2.tj 3)) ?_
          refine s_goto (tgt := 76) dX4_ofState_56 (by decide) ?_
          exact s_retl dX4_ofState_76 rfl (NJ.of (F := f_X4_ofState n c q) (x := (c.tj 3)) (by unfold f_X4_ofState; rw [if_neg c_7, if_neg c_24, if_neg c_37, if_pos c_49]) hW2 hF2)
      · skip
        refine s_aloadn dX4_ofState_40 rfl rfl ?_
        refine s_get (v := .long (c.tj 2)) (n := 63) dX4_ofState_41 rfl hW2.mm (congrArg Value.long (congrFun hW2.tj 2)) ?_
        refine s_goto (tgt := 76) dX4_ofState_44 (by decide) ?_
        exact s_retl dX4_ofState_76 rfl (NJ.of (F := f_X4_ofState n c q) (x := (c.tj 2)) (by unfold f_X4_ofState; rw [if_neg c_7, if_neg c_24, if_pos c_37]) hW2 hF2)
    · skip
      refine s_aloadn dX4_ofState_27 rfl rfl ?_
      refine s_get (v := .int (c.ti 1)) (n := 62) dX4_ofState_28 rfl hW2.mm (congrArg Value.int (congrFun hW2.ti 1)) ?_
      refine s_i2l dX4_ofState_31 ?_
      refine s_goto (tgt := 76) dX4_ofState_32 (by decide) ?_
      exact s_retl dX4_ofState_76 rfl (NJ.of (F := f_X4_ofState n c q) (x := ((c.ti 1) : Int32).toInt64) (by unfold f_X4_ofState; rw [if_neg c_7, if_pos c_24]) hW2 hF2)
def f_X4_effort (c : MC) (k : Int32) : Int32 × MC := if (f_X4_isKind k) = 0 then (0, (c.pti 0 1)) else ((f_X4_effortOf (c.pti 0 0) (ix k)), (c.pti 0 0))
set_option maxHeartbeats 4000000 in
theorem m_X4_effort {tm : Nat × Nat} {S : Sto} {w : MAd} {c : MC} {k : Int32} (hW : MW S w c)   : Ev tm M_X4_effort [.ref w.mm, .int k] S (NI w S (f_X4_effort c k)) := by
  have hF : FrM S S := FrM.rf
  refine ev_in ok_X4_effort (Nat.le_of_ble_eq_true rfl) ?_
  refine s_aloadn dX4_effort_0 rfl rfl ?_
  refine s_iloadn dX4_effort_1 rfl rfl ?_
  refine s_cs1R (n := 24) dX4_effort_2 rfl rfl (by decide) (by decide) (by decide) (by decide) (Nat.le_of_ble_eq_true rfl) (m_X4_isKind) ?_
  refine s_ifeq (tgt := 12) dX4_effort_5 (by decide) (fun c_5 => ?_) (fun c_5 => ?_)
  · skip
    refine s_iconst (v := 1) dX4_effort_12 (by decide) ?_
    refine s_cv1G (n := 49) dX4_effort_13 rfl (kv hW.mm (by decide) rfl) rfl (by decide) (by decide) (by decide) (by decide) (Nat.le_of_ble_eq_true rfl) (m_holdsP (p := 1) hW (by decide)) (fun r1 S1 hr1 => ?_) (fun x S2 hr => by obtain ⟨e, -⟩ := hr; cases e)
    obtain ⟨e1, hW1, hG1⟩ := hr1
    cases e1
    have hF1 := hF.tr hG1
    refine s_ifeq (tgt := 27) dX4_effort_16 (by decide) (fun _ => ?_) (fun c => absurd c (by decide))
    refine s_iconst (v := 0) dX4_effort_27 (by decide) ?_
    exact s_reti dX4_effort_28 rfl rfl (NI.of (F := f_X4_effort c k) (x := 0) (by unfold f_X4_effort; rw [if_pos c_5]) hW1 hF1)
  · skip
    refine s_iconst (v := 0) dX4_effort_8 (by decide) ?_
    refine s_goto (tgt := 13) dX4_effort_9 (by decide) ?_
    refine s_cv1G (n := 49) dX4_effort_13 rfl (kv hW.mm (by decide) rfl) rfl (by decide) (by decide) (by decide) (by decide) (Nat.le_of_ble_eq_true rfl) (m_holds0 hW) (fun r2 S2 hr2 => ?_) (fun x S2 hr => by obtain ⟨e, -⟩ := hr; cases e)
    obtain ⟨e2, hW2, hG2⟩ := hr2
    cases e2
    have hF2 := hF.tr hG2
    refine s_ifeq (tgt := 27) dX4_effort_16 (by decide) (fun c => absurd c (by decide)) (fun _ => ?_)
    refine s_aloadn dX4_effort_19 rfl rfl ?_
    refine s_iloadn dX4_effort_20 rfl rfl ?_
    refine s_cv1R (n := 71) dX4_effort_21 rfl (kv hW2.mm (by decide) rfl) rfl (by decide) (by decide) (by decide) (by decide) (Nat.le_of_ble_eq_true rfl) (by have q : Ev tm M_X4_effortOf [.ref w.mm, .int (nI (ix k))] S2 _ := m_X4_effortOf hW2 (inr_lt (isK c_5) (by decide)); rw [← ((inr_ix (isK c_5)).symm)] at q; exact q) ?_
    refine s_goto (tgt := 28) dX4_effort_24 (by decide) ?_
    exact s_reti dX4_effort_28 rfl rfl (NI.of (F := f_X4_effort c k) (x := (f_X4_effortOf (c.pti 0 0) (ix k))) (by unfold f_X4_effort; rw [if_neg c_5]) hW2 hF2)