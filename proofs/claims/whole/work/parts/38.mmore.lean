/-! THE PROGRAM, 19: the model's other calls -/
theorem n40 {x : Int32} {n : Nat} (hc : x = nI n) (hn : n ≤ 40) (h : ¬ x = 40) : n < 40 := by
  rcases Nat.lt_or_eq_of_le hn with e | e
  · exact e
  · exact absurd (by rw [hc, e]; rfl) h
theorem nlt {x : Int32} {n b : Nat} (hc : x = nI n) (hn : n ≤ b) (h : ¬ x = nI b) : n < b := by
  rcases Nat.lt_or_eq_of_le hn with e | e
  · exact e
  · exact absurd (by rw [hc, e]) h
theorem rz {r : Int32} (h : ¬ f_X4_isIn r 0 1500 = 0) : ¬ ((10000 + r : Int32).toInt64) = 0 := by
  obtain ⟨h1, h2⟩ := isI h
  rw [Int32.le_iff_toInt_le] at h1 h2
  have h1 : (0 : Int) ≤ r.toInt := h1
  have h2 : r.toInt ≤ 1500 := h2
  intro e
  have e := congrArg Int64.toInt e
  rw [Int32.toInt_toInt64, Int32.toInt_add] at e
  have e1 : (10000 : Int32).toInt = 10000 := rfl
  have e2 : (0 : Int64).toInt = 0 := rfl
  rw [e1, e2, Int.bmod_eq_of_le (by omega) (by omega)] at e
  omega
def f_X4_adds (n : Nat) (c : MC) (a b : Int32) (p : Int64) (q y : Int32) : Int32 × MC := ((c.ti 7), ((((((((c.pti 7 ((c.ti 7) + 1)).pai 8 n a).pai 9 n b).paj 10 n p).pai 11 n q).pai 12 n ((c.ti 1) + y)).pai 14 n (-1)).pai 21 n (-1)))
set_option maxHeartbeats 4000000 in
theorem m_X4_adds {tm : Nat × Nat} {S : Sto} {w : MAd} {c : MC} {n : Nat} {a b : Int32} {p : Int64} {q y : Int32} (hW : MW S w c) (hcl : c.ti 7 = nI n) (hn1 : n < 40) : Ev tm M_X4_adds [.ref w.mm, .int a, .int b, .long p, .int q, .int y] S (NI w S (f_X4_adds n c a b p q y)) := by
  have hF : FrM S S := FrM.rf
  refine ev_in ok_X4_adds (Nat.le_of_ble_eq_true rfl) ?_
  refine s_aloadn dX4_adds_0 rfl rfl ?_
  refine s_get (v := .int (c.ti 7)) (n := 68) dX4_adds_1 rfl hW.mm (congrArg Value.int (congrFun hW.ti 7)) ?_
  refine s_istore dX4_adds_4 (by decide) ?_
  refine s_aloadn dX4_adds_6 rfl rfl ?_
  refine s_dup dX4_adds_7 rfl ?_
  refine s_get (v := .int (c.ti 7)) (n := 68) dX4_adds_8 rfl hW.mm (congrArg Value.int (congrFun hW.ti 7)) ?_
  refine s_iconst (v := 1) dX4_adds_11 (by decide) ?_
  refine s_iadd dX4_adds_12 ?_
  refine s_putI (n := 68) dX4_adds_13 rfl hW.mm (Or.inl rfl) (fun _ _ _ => rfl) rfl rfl ?_
  have hW1 := hW.pti (k := 7) (v := (c.ti 7) + 1)
  have hF1 := hF.uI (a := w.mm) (k := 7) (v := (c.ti 7) + 1) (kd := 5) hW.mm (by decide)
  refine s_aloadn dX4_adds_16 rfl rfl ?_
  refine s_getR (n := 69) dX4_adds_17 rfl hW1.mm (fun _ _ _ => rfl) (hW1.rr 8 (by decide)).1 ?_
  refine s_iload dX4_adds_20 rfl ?_
  refine s_iloadn dX4_adds_22 rfl rfl ?_
  refine s_iast' (j := n) dX4_adds_23 ((hW1.rr 8 (by decide)).2.1) hcl (by rw [(hW1.rr 8 (by decide)).2.2]; exact hn1) (by rw [(hW1.rr 8 (by decide)).2.2]; decide) ?_
  have hW2 := hW1.pai (f := 8) (by decide) (k := n) (v := a)
  have hF2 := hF1.uI (a := (w.ar 8)) (k := n) (v := a) (kd := 6) ((hW1.rr 8 (by decide)).2.1) (by decide)
  refine s_aloadn dX4_adds_24 rfl rfl ?_
  refine s_getR (n := 70) dX4_adds_25 rfl hW2.mm (fun _ _ _ => rfl) (hW2.rr 9 (by decide)).1 ?_
  refine s_iload dX4_adds_28 rfl ?_
  refine s_iloadn dX4_adds_30 rfl rfl ?_
  refine s_iast' (j := n) dX4_adds_31 ((hW2.rr 9 (by decide)).2.1) hcl (by rw [(hW2.rr 9 (by decide)).2.2]; exact hn1) (by rw [(hW2.rr 9 (by decide)).2.2]; decide) ?_
  have hW3 := hW2.pai (f := 9) (by decide) (k := n) (v := b)
  have hF3 := hF2.uI (a := (w.ar 9)) (k := n) (v := b) (kd := 6) ((hW2.rr 9 (by decide)).2.1) (by decide)
  refine s_aloadn dX4_adds_32 rfl rfl ?_
  refine s_getR (n := 71) dX4_adds_33 rfl hW3.mm (fun _ _ _ => rfl) (hW3.rr 10 (by decide)).1 ?_
  refine s_iload dX4_adds_36 rfl ?_
  refine s_lloadn dX4_adds_38 rfl rfl ?_
  refine s_last' (j := n) dX4_adds_39 (Or.inr (Or.inl (hW3.rr 10 (by decide)).2.1)) hcl (by rw [(hW3.rr 10 (by decide)).2.2]; exact hn1) (by rw [(hW3.rr 10 (by decide)).2.2]; decide) ?_
  have hW4 := hW3.paj (f := 10) (by decide) (k := n) (v := p)
  have hF4 := hF3.uJ (a := (w.ar 10)) (k := n) (v := p) (kd := 10) ((hW3.rr 10 (by decide)).2.1) (by decide)
  refine s_aloadn dX4_adds_40 rfl rfl ?_
  refine s_getR (n := 72) dX4_adds_41 rfl hW4.mm (fun _ _ _ => rfl) (hW4.rr 11 (by decide)).1 ?_
  refine s_iload dX4_adds_44 rfl ?_
  refine s_iload dX4_adds_46 rfl ?_
  refine s_iast' (j := n) dX4_adds_48 ((hW4.rr 11 (by decide)).2.1) hcl (by rw [(hW4.rr 11 (by decide)).2.2]; exact hn1) (by rw [(hW4.rr 11 (by decide)).2.2]; decide) ?_
  have hW5 := hW4.pai (f := 11) (by decide) (k := n) (v := q)
  have hF5 := hF4.uI (a := (w.ar 11)) (k := n) (v := q) (kd := 6) ((hW4.rr 11 (by decide)).2.1) (by decide)
  refine s_aloadn dX4_adds_49 rfl rfl ?_
  refine s_getR (n := 73) dX4_adds_50 rfl hW5.mm (fun _ _ _ => rfl) (hW5.rr 12 (by decide)).1 ?_
  refine s_iload dX4_adds_53 rfl ?_
  refine s_aloadn dX4_adds_55 rfl rfl ?_
  refine s_get (v := .int (c.ti 1)) (n := 62) dX4_adds_56 rfl hW5.mm (congrArg Value.int (congrFun hW5.ti 1)) ?_
  refine s_iload dX4_adds_59 rfl ?_
  refine s_iadd dX4_adds_61 ?_
  refine s_iast' (j := n) dX4_adds_62 ((hW5.rr 12 (by decide)).2.1) hcl (by rw [(hW5.rr 12 (by decide)).2.2]; exact hn1) (by rw [(hW5.rr 12 (by decide)).2.2]; decide) ?_
  have hW6 := hW5.pai (f := 12) (by decide) (k := n) (v := (c.ti 1) + y)
  have hF6 := hF5.uI (a := (w.ar 12)) (k := n) (v := (c.ti 1) + y) (kd := 6) ((hW5.rr 12 (by decide)).2.1) (by decide)
  refine s_aloadn dX4_adds_63 rfl rfl ?_
  refine s_getR (n := 75) dX4_adds_64 rfl hW6.mm (fun _ _ _ => rfl) (hW6.rr 14 (by decide)).1 ?_
  refine s_iload dX4_adds_67 rfl ?_
  refine s_iconst (v := (-1)) dX4_adds_69 (by decide) ?_
  refine s_iast' (j := n) dX4_adds_70 ((hW6.rr 14 (by decide)).2.1) hcl (by rw [(hW6.rr 14 (by decide)).2.2]; exact hn1) (by rw [(hW6.rr 14 (by decide)).2.2]; decide) ?_
  have hW7 := hW6.pai (f := 14) (by decide) (k := n) (v := (-1))
  have hF7 := hF6.uI (a := (w.ar 14)) (k := n) (v := (-1)) (kd := 6) ((hW6.rr 14 (by decide)).2.1) (by decide)
  refine s_aloadn dX4_adds_71 rfl rfl ?_
  refine s_getR (n := 82) dX4_adds_72 rfl hW7.mm (fun _ _ _ => rfl) (hW7.rr 21 (by decide)).1 ?_
  refine s_iload dX4_adds_75 rfl ?_
  refine s_iconst (v := (-1)) dX4_adds_77 (by decide) ?_
  refine s_iast' (j := n) dX4_adds_78 ((hW7.rr 21 (by decide)).2.1) hcl (by rw [(hW7.rr 21 (by decide)).2.2]; exact hn1) (by rw [(hW7.rr 21 (by decide)).2.2]; decide) ?_
  have hW8 := hW7.pai (f := 21) (by decide) (k := n) (v := (-1))
  have hF8 := hF7.uI (a := (w.ar 21)) (k := n) (v := (-1)) (kd := 6) ((hW7.rr 21 (by decide)).2.1) (by decide)
  refine s_iload dX4_adds_79 rfl ?_
  exact s_reti dX4_adds_81 rfl rfl (NI.of (F := f_X4_adds n c a b p q y) (x := (c.ti 7)) (by unfold f_X4_adds; rfl) hW8 hF8)
def f_X4_claim (n : Nat) (c : MC) (a b p q y r s z : Int32) : Int32 × MC := if (f_X4_isKind a) = 0 then (0, (c.pti 0 1)) else (if (f_X4_isIn b 0 7) = 0 then (0, (c.pti 0 1)) else (if (f_X4_isIn p 1 1000000) = 0 then (0, (c.pti 0 1)) else (if (f_X4_isIn q 0 1000) = 0 then (0, (c.pti 0 1)) else (if (f_X4_isIn y 1 30) = 0 then (0, (c.pti 0 1)) else (if (f_X4_isIn r 0 2) = 0 then (0, (c.pti 0 1)) else (if a = 1 then (if (f_X4_isIn s 0 3) = 0 then (0, (c.pti 0 1)) else (if (c.ti 7) = 40 then (0, (c.pti 0 2)) else ((f_X4_adds n (c.pti 0 0) a b ((p : Int32).toInt64) q y).1, ((((f_X4_adds n (c.pti 0 0) a b ((p : Int32).toInt64) q y).2.pai 13 n r).pai 14 n s).pai 15 n z)))) else (if s = (-1) then (if (c.ti 7) = 40 then (0, (c.pti 0 2)) else ((f_X4_adds n (c.pti 0 0) a b ((p : Int32).toInt64) q y).1, ((((f_X4_adds n (c.pti 0 0) a b ((p : Int32).toInt64) q y).2.pai 13 n r).pai 14 n s).pai 15 n z))) else (0, (c.pti 0 1)))))))))
set_option maxHeartbeats 4000000 in
theorem m_X4_claim {tm : Nat × Nat} {S : Sto} {w : MAd} {c : MC} {n : Nat} {a b p q y r s z : Int32} (hW : MW S w c) (hcl : c.ti 7 = nI n) (hn : n ≤ 40) (hz : z = 0 ∨ z = 1) : Ev tm M_X4_claim [.ref w.mm, .int a, .int b, .int p, .int q, .int y, .int r, .int s, .int z] S (NI w S (f_X4_claim n c a b p q y r s z)) := by
  have hF : FrM S S := FrM.rf
  refine ev_in ok_X4_claim (Nat.le_of_ble_eq_true rfl) ?_
  refine s_iloadn dX4_claim_0 rfl rfl ?_
  refine s_cs1R (n := 24) dX4_claim_1 rfl rfl (by decide) (by decide) (by decide) (by decide) (Nat.le_of_ble_eq_true rfl) (m_X4_isKind) ?_
  refine s_ifeq (tgt := 43) dX4_claim_4 (by decide) (fun c_4 => ?_) (fun c_4 => ?_)
  · skip
    refine s_iconst (v := 0) dX4_claim_43 (by decide) ?_
    refine s_istore dX4_claim_44 (by decide) ?_
    refine s_iload dX4_claim_46 rfl ?_
    refine s_ifeq (tgt := 100) dX4_claim_48 (by decide) (fun _ => ?_) (fun c => absurd c (by decide))
    refine s_iconst (v := 0) dX4_claim_100 (by decide) ?_
    refine s_istore dX4_claim_101 (by decide) ?_
    refine s_aloadn dX4_claim_103 rfl rfl ?_
    refine s_iload dX4_claim_104 rfl ?_
    refine s_ifne (tgt := 113) dX4_claim_106 (by decide) (fun c => absurd c (by decide)) (fun _ => ?_)
    refine s_iconst (v := 1) dX4_claim_109 (by decide) ?_
    refine s_goto (tgt := 127) dX4_claim_110 (by decide) ?_
    refine s_cv1G (n := 49) dX4_claim_127 rfl (kv hW.mm (by decide) rfl) rfl (by decide) (by decide) (by decide) (by decide) (Nat.le_of_ble_eq_true rfl) (m_holdsP (p := 1) hW (by decide)) (fun r1 S1 hr1 => ?_) (fun x S2 hr => by obtain ⟨e, -⟩ := hr; cases e)
    obtain ⟨e1, hW1, hG1⟩ := hr1
    cases e1
    have hF1 := hF.tr hG1
    refine s_ifne (tgt := 135) dX4_claim_130 (by decide) (fun c => absurd c (by decide)) (fun _ => ?_)
    refine s_iconst (v := 0) dX4_claim_133 (by decide) ?_
    exact s_reti dX4_claim_134 rfl rfl (NI.of (F := f_X4_claim n c a b p q y r s z) (x := 0) (by unfold f_X4_claim; rw [if_pos c_4]) hW1 hF1)
  · skip
    refine s_iloadn dX4_claim_7 rfl rfl ?_
    refine s_iconst (v := 0) dX4_claim_8 (by decide) ?_
    refine s_bipush (v := 7) dX4_claim_9 (by decide) ?_
    refine s_cs3R (n := 23) dX4_claim_11 rfl rfl (by decide) (by decide) (by decide) (by decide) (Nat.le_of_ble_eq_true rfl) (m_X4_isIn) ?_
    refine s_ifeq (tgt := 43) dX4_claim_14 (by decide) (fun c_14 => ?_) (fun c_14 => ?_)
    · skip
      refine s_iconst (v := 0) dX4_claim_43 (by decide) ?_
      refine s_istore dX4_claim_44 (by decide) ?_
      refine s_iload dX4_claim_46 rfl ?_
      refine s_ifeq (tgt := 100) dX4_claim_48 (by decide) (fun _ => ?_) (fun c => absurd c (by decide))
      refine s_iconst (v := 0) dX4_claim_100 (by decide) ?_
      refine s_istore dX4_claim_101 (by decide) ?_
      refine s_aloadn dX4_claim_103 rfl rfl ?_
      refine s_iload dX4_claim_104 rfl ?_
      refine s_ifne (tgt := 113) dX4_claim_106 (by decide) (fun c => absurd c (by decide)) (fun _ => ?_)
      refine s_iconst (v := 1) dX4_claim_109 (by decide) ?_
      refine s_goto (tgt := 127) dX4_claim_110 (by decide) ?_
      refine s_cv1G (n := 49) dX4_claim_127 rfl (kv hW.mm (by decide) rfl) rfl (by decide) (by decide) (by decide) (by decide) (Nat.le_of_ble_eq_true rfl) (m_holdsP (p := 1) hW (by decide)) (fun r2 S2 hr2 => ?_) (fun x S2 hr => by obtain ⟨e, -⟩ := hr; cases e)
      obtain ⟨e2, hW2, hG2⟩ := hr2
      cases e2
      have hF2 := hF.tr hG2
      refine s_ifne (tgt := 135) dX4_claim_130 (by decide) (fun c => absurd c (by decide)) (fun _ => ?_)
      refine s_iconst (v := 0) dX4_claim_133 (by decide) ?_
      exact s_reti dX4_claim_134 rfl rfl (NI.of (F := f_X4_claim n c a b p q y r s z) (x := 0) (by unfold f_X4_claim; rw [if_neg c_4, if_pos c_14]) hW2 hF2)
    · skip
      refine s_iloadn dX4_claim_17 rfl rfl ?_
      refine s_iconst (v := 1) dX4_claim_18 (by decide) ?_
      refine s_ldc (v := 1000000) dX4_claim_19 cst_RX4_117 ?_
      refine s_cs3R (n := 23) dX4_claim_21 rfl rfl (by decide) (by decide) (by decide) (by decide) (Nat.le_of_ble_eq_true rfl) (m_X4_isIn) ?_
      refine s_ifeq (tgt := 43) dX4_claim_24 (by decide) (fun c_24 => ?_) (fun c_24 => ?_)
      · skip
        refine s_iconst (v := 0) dX4_claim_43 (by decide) ?_
        refine s_istore dX4_claim_44 (by decide) ?_
        refine s_iload dX4_claim_46 rfl ?_
        refine s_ifeq (tgt := 100) dX4_claim_48 (by decide) (fun _ => ?_) (fun c => absurd c (by decide))
        refine s_iconst (v := 0) dX4_claim_100 (by decide) ?_
        refine s_istore dX4_claim_101 (by decide) ?_
        refine s_aloadn dX4_claim_103 rfl rfl ?_
        refine s_iload dX4_claim_104 rfl ?_
        refine s_ifne (tgt := 113) dX4_claim_106 (by decide) (fun c => absurd c (by decide)) (fun _ => ?_)
        refine s_iconst (v := 1) dX4_claim_109 (by decide) ?_
        refine s_goto (tgt := 127) dX4_claim_110 (by decide) ?_
        refine s_cv1G (n := 49) dX4_claim_127 rfl (kv hW.mm (by decide) rfl) rfl (by decide) (by decide) (by decide) (by decide) (Nat.le_of_ble_eq_true rfl) (m_holdsP (p := 1) hW (by decide)) (fun r3 S3 hr3 => ?_) (fun x S2 hr => by obtain ⟨e, -⟩ := hr; cases e)
        obtain ⟨e3, hW3, hG3⟩ := hr3
        cases e3
        have hF3 := hF.tr hG3
        refine s_ifne (tgt := 135) dX4_claim_130 (by decide) (fun c => absurd c (by decide)) (fun _ => ?_)
        refine s_iconst (v := 0) dX4_claim_133 (by decide) ?_
        exact s_reti dX4_claim_134 rfl rfl (NI.of (F := f_X4_claim n c a b p q y r s z) (x := 0) (by unfold f_X4_claim; rw [if_neg c_4, if_neg c_14, if_pos c_24]) hW3 hF3)
      · skip
        refine s_iload dX4_claim_27 rfl ?_
        refine s_iconst (v := 0) dX4_claim_29 (by decide) ?_
        refine s_sipush (v := 1000) dX4_claim_30 (by decide) ?_
        refine s_cs3R (n := 23) dX4_claim_33 rfl rfl (by decide) (by decide) (by decide) (by decide) (Nat.le_of_ble_eq_true rfl) (m_X4_isIn) ?_
        refine s_ifeq (tgt := 43) dX4_claim_36 (by decide) (fun c_36 => ?_) (fun c_36 => ?_)
        · skip
          refine s_iconst (v := 0) dX4_claim_43 (by decide) ?_
          refine s_istore dX4_claim_44 (by decide) ?_
          refine s_iload dX4_claim_46 rfl ?_
          refine s_ifeq (tgt := 100) dX4_claim_48 (by decide) (fun _ => ?_) (fun c => absurd c (by decide))
          refine s_iconst (v := 0) dX4_claim_100 (by decide) ?_
          refine s_istore dX4_claim_101 (by decide) ?_
          refine s_aloadn dX4_claim_103 rfl rfl ?_
          refine s_iload dX4_claim_104 rfl ?_
          refine s_ifne (tgt := 113) dX4_claim_106 (by decide) (fun c => absurd c (by decide)) (fun _ => ?_)
          refine s_iconst (v := 1) dX4_claim_109 (by decide) ?_
          refine s_goto (tgt := 127) dX4_claim_110 (by decide) ?_
          refine s_cv1G (n := 49) dX4_claim_127 rfl (kv hW.mm (by decide) rfl) rfl (by decide) (by decide) (by decide) (by decide) (Nat.le_of_ble_eq_true rfl) (m_holdsP (p := 1) hW (by decide)) (fun r4 S4 hr4 => ?_) (fun x S2 hr => by obtain ⟨e, -⟩ := hr; cases e)
          obtain ⟨e4, hW4, hG4⟩ := hr4
          cases e4
          have hF4 := hF.tr hG4
          refine s_ifne (tgt := 135) dX4_claim_130 (by decide) (fun c => absurd c (by decide)) (fun _ => ?_)
          refine s_iconst (v := 0) dX4_claim_133 (by decide) ?_
          exact s_reti dX4_claim_134 rfl rfl (NI.of (F := f_X4_claim n c a b p q y r s z) (x := 0) (by unfold f_X4_claim; rw [if_neg c_4, if_neg c_14, if_neg c_24, if_pos c_36]) hW4 hF4)
        · skip
          refine s_iconst (v := 1) dX4_claim_39 (by decide) ?_
          refine s_goto (tgt := 44) dX4_claim_40 (by decide) ?_
          refine s_istore dX4_claim_44 (by decide) ?_
          refine s_iload dX4_claim_46 rfl ?_
          refine s_ifeq (tgt := 100) dX4_claim_48 (by decide) (fun c => absurd c (by decide)) (fun _ => ?_)
          refine s_iload dX4_claim_51 rfl ?_
          refine s_iconst (v := 1) dX4_claim_53 (by decide) ?_
          refine s_bipush (v := 30) dX4_claim_54 (by decide) ?_
          refine s_cs3R (n := 23) dX4_claim_56 rfl rfl (by decide) (by decide) (by decide) (by decide) (Nat.le_of_ble_eq_true rfl) (m_X4_isIn) ?_
          refine s_ifeq (tgt := 100) dX4_claim_59 (by decide) (fun c_59 => ?_) (fun c_59 => ?_)
          · skip
            refine s_iconst (v := 0) dX4_claim_100 (by decide) ?_
            refine s_istore dX4_claim_101 (by decide) ?_
            refine s_aloadn dX4_claim_103 rfl rfl ?_
            refine s_iload dX4_claim_104 rfl ?_
            refine s_ifne (tgt := 113) dX4_claim_106 (by decide) (fun c => absurd c (by decide)) (fun _ => ?_)
            refine s_iconst (v := 1) dX4_claim_109 (by decide) ?_
            refine s_goto (tgt := 127) dX4_claim_110 (by decide) ?_
            refine s_cv1G (n := 49) dX4_claim_127 rfl (kv hW.mm (by decide) rfl) rfl (by decide) (by decide) (by decide) (by decide) (Nat.le_of_ble_eq_true rfl) (m_holdsP (p := 1) hW (by decide)) (fun r5 S5 hr5 => ?_) (fun x S2 hr => by obtain ⟨e, -⟩ := hr; cases e)
            obtain ⟨e5, hW5, hG5⟩ := hr5
            cases e5
            have hF5 := hF.tr hG5
            refine s_ifne (tgt := 135) dX4_claim_130 (by decide) (fun c => absurd c (by decide)) (fun _ => ?_)
            refine s_iconst (v := 0) dX4_claim_133 (by decide) ?_
            exact s_reti dX4_claim_134 rfl rfl (NI.of (F := f_X4_claim n c a b p q y r s z) (x := 0) (by unfold f_X4_claim; rw [if_neg c_4, if_neg c_14, if_neg c_24, if_neg c_36, if_pos c_59]) hW5 hF5)
          · skip
            refine s_iload dX4_claim_62 rfl ?_
            refine s_iconst (v := 0) dX4_claim_64 (by decide) ?_
            refine s_iconst (v := 2) dX4_claim_65 (by decide) ?_
            refine s_cs3R (n := 23) dX4_claim_66 rfl rfl (by decide) (by decide) (by decide) (by decide) (Nat.le_of_ble_eq_true rfl) (m_X4_isIn) ?_
            refine s_ifeq (tgt := 100) dX4_claim_69 (by decide) (fun c_69 => ?_) (fun c_69 => ?_)
            · skip
              refine s_iconst (v := 0) dX4_claim_100 (by decide) ?_
              refine s_istore dX4_claim_101 (by decide) ?_
              refine s_aloadn dX4_claim_103 rfl rfl ?_
              refine s_iload dX4_claim_104 rfl ?_
              refine s_ifne (tgt := 113) dX4_claim_106 (by decide) (fun c => absurd c (by decide)) (fun _ => ?_)
              refine s_iconst (v := 1) dX4_claim_109 (by decide) ?_
              refine s_goto (tgt := 127) dX4_claim_110 (by decide) ?_
              refine s_cv1G (n := 49) dX4_claim_127 rfl (kv hW.mm (by decide) rfl) rfl (by decide) (by decide) (by decide) (by decide) (Nat.le_of_ble_eq_true rfl) (m_holdsP (p := 1) hW (by decide)) (fun r6 S6 hr6 => ?_) (fun x S2 hr => by obtain ⟨e, -⟩ := hr; cases e)
              obtain ⟨e6, hW6, hG6⟩ := hr6
              cases e6
              have hF6 := hF.tr hG6
              refine s_ifne (tgt := 135) dX4_claim_130 (by decide) (fun c => absurd c (by decide)) (fun _ => ?_)
              refine s_iconst (v := 0) dX4_claim_133 (by decide) ?_
              exact s_reti dX4_claim_134 rfl rfl (NI.of (F := f_X4_claim n c a b p q y r s z) (x := 0) (by unfold f_X4_claim; rw [if_neg c_4, if_neg c_14, if_neg c_24, if_neg c_36, if_neg c_59, if_pos c_69]) hW6 hF6)
            · skip
              refine s_iloadn dX4_claim_72 rfl rfl ?_
              refine s_iconst (v := 1) dX4_claim_73 (by decide) ?_
              refine s_icne (tgt := 90) dX4_claim_74 (by decide) (fun c_74 => ?_) (fun c_74 => ?_)
              · skip
                refine s_iload dX4_claim_90 rfl ?_
                refine s_iconst (v := (-1)) dX4_claim_92 (by decide) ?_
                refine s_icne (tgt := 100) dX4_claim_93 (by decide) (fun c_93 => ?_) (fun c_93 => ?_)
                · skip
                  refine s_iconst (v := 0) dX4_claim_100 (by decide) ?_
                  refine s_istore dX4_claim_101 (by decide) ?_
                  refine s_aloadn dX4_claim_103 rfl rfl ?_
                  refine s_iload dX4_claim_104 rfl ?_
                  refine s_ifne (tgt := 113) dX4_claim_106 (by decide) (fun c => absurd c (by decide)) (fun _ => ?_)
                  refine s_iconst (v := 1) dX4_claim_109 (by decide) ?_
                  refine s_goto (tgt := 127) dX4_claim_110 (by decide) ?_
                  refine s_cv1G (n := 49) dX4_claim_127 rfl (kv hW.mm (by decide) rfl) rfl (by decide) (by decide) (by decide) (by decide) (Nat.le_of_ble_eq_true rfl) (m_holdsP (p := 1) hW (by decide)) (fun r7 S7 hr7 => ?_) (fun x S2 hr => by obtain ⟨e, -⟩ := hr; cases e)
                  obtain ⟨e7, hW7, hG7⟩ := hr7
                  cases e7
                  have hF7 := hF.tr hG7
                  refine s_ifne (tgt := 135) dX4_claim_130 (by decide) (fun c => absurd c (by decide)) (fun _ => ?_)
                  refine s_iconst (v := 0) dX4_claim_133 (by decide) ?_
                  exact s_reti dX4_claim_134 rfl rfl (NI.of (F := f_X4_claim n c a b p q y r s z) (x := 0) (by unfold f_X4_claim; rw [if_neg c_4, if_neg c_14, if_neg c_24, if_neg c_36, if_neg c_59, if_neg c_69, if_neg c_74, if_neg c_93]) hW7 hF7)
                · skip
                  refine s_iconst (v := 1) dX4_claim_96 (by decide) ?_
                  refine s_goto (tgt := 101) dX4_claim_97 (by decide) ?_
                  refine s_istore dX4_claim_101 (by decide) ?_
                  refine s_aloadn dX4_claim_103 rfl rfl ?_
                  refine s_iload dX4_claim_104 rfl ?_
                  refine s_ifne (tgt := 113) dX4_claim_106 (by decide) (fun _ => ?_) (fun c => absurd c (by decide))
                  refine s_aloadn dX4_claim_113 rfl rfl ?_
                  refine s_get (v := .int (c.ti 7)) (n := 68) dX4_claim_114 rfl hW.mm (congrArg Value.int (congrFun hW.ti 7)) ?_
                  refine s_bipush (v := 40) dX4_claim_117 (by decide) ?_
                  refine s_icne (tgt := 126) dX4_claim_119 (by decide) (fun c_119 => ?_) (fun c_119 => ?_)
                  · skip
                    refine s_iconst (v := 0) dX4_claim_126 (by decide) ?_
                    refine s_cv1G (n := 49) dX4_claim_127 rfl (kv hW.mm (by decide) rfl) rfl (by decide) (by decide) (by decide) (by decide) (Nat.le_of_ble_eq_true rfl) (m_holds0 hW) (fun r8 S8 hr8 => ?_) (fun x S2 hr => by obtain ⟨e, -⟩ := hr; cases e)
                    obtain ⟨e8, hW8, hG8⟩ := hr8
                    cases e8
                    have hF8 := hF.tr hG8
                    refine s_ifne (tgt := 135) dX4_claim_130 (by decide) (fun _ => ?_) (fun c => absurd c (by decide))
                    refine s_aloadn dX4_claim_135 rfl rfl ?_
                    refine s_iloadn dX4_claim_136 rfl rfl ?_
                    refine s_iloadn dX4_claim_137 rfl rfl ?_
                    refine s_iloadn dX4_claim_138 rfl rfl ?_
                    refine s_i2l dX4_claim_139 ?_
                    refine s_iload dX4_claim_140 rfl ?_
                    refine s_iload dX4_claim_142 rfl ?_
                    refine s_cv5G (n := 50) dX4_claim_144 rfl (kv hW8.mm (by decide) rfl) rfl (by decide) (by decide) (by decide) (by decide) (Nat.le_of_ble_eq_true rfl) (m_X4_adds (n := n) hW8 (show (c.pti 0 0).ti 7 = nI n from hcl) (n40 hcl hn c_119)) (fun r9 S9 hr9 => ?_) (fun x S2 hr => by obtain ⟨e, -⟩ := hr; cases e)
                    obtain ⟨e9, hW9, hG9⟩ := hr9
                    cases e9
                    have hF9 := hF8.tr hG9
                    refine s_istore dX4_claim_147 (by decide) ?_
                    refine s_aloadn dX4_claim_149 rfl rfl ?_
                    refine s_getR (n := 74) dX4_claim_150 rfl hW9.mm (fun _ _ _ => rfl) (hW9.rr 13 (by decide)).1 ?_
                    refine s_iload dX4_claim_153 rfl ?_
                    refine s_iload dX4_claim_155 rfl ?_
                    refine s_iast' (j := n) dX4_claim_157 ((hW9.rr 13 (by decide)).2.1) (show (f_X4_adds n (c.pti 0 0) a b ((p : Int32).toInt64) q y).1 = nI n from hcl) (by rw [(hW9.rr 13 (by decide)).2.2]; exact (n40 hcl hn c_119)) (by rw [(hW9.rr 13 (by decide)).2.2]; decide) ?_
                    have hW10 := hW9.pai (f := 13) (by decide) (k := n) (v := r)
                    have hF10 := hF9.uI (a := (w.ar 13)) (k := n) (v := r) (kd := 6) ((hW9.rr 13 (by decide)).2.1) (by decide)
                    refine s_aloadn dX4_claim_158 rfl rfl ?_
                    refine s_getR (n := 75) dX4_claim_159 rfl hW10.mm (fun _ _ _ => rfl) (hW10.rr 14 (by decide)).1 ?_
                    refine s_iload dX4_claim_162 rfl ?_
                    refine s_iload dX4_claim_164 rfl ?_
                    refine s_iast' (j := n) dX4_claim_166 ((hW10.rr 14 (by decide)).2.1) (show (f_X4_adds n (c.pti 0 0) a b ((p : Int32).toInt64) q y).1 = nI n from hcl) (by rw [(hW10.rr 14 (by decide)).2.2]; exact (n40 hcl hn c_119)) (by rw [(hW10.rr 14 (by decide)).2.2]; decide) ?_
                    have hW11 := hW10.pai (f := 14) (by decide) (k := n) (v := s)
                    have hF11 := hF10.uI (a := (w.ar 14)) (k := n) (v := s) (kd := 6) ((hW10.rr 14 (by decide)).2.1) (by decide)
                    refine s_aloadn dX4_claim_167 rfl rfl ?_
                    refine s_getR (n := 76) dX4_claim_168 rfl hW11.mm (fun _ _ _ => rfl) (hW11.rr 15 (by decide)).1 ?_
                    refine s_iload dX4_claim_171 rfl ?_
                    refine s_iload dX4_claim_173 rfl ?_
                    refine s_zast' (j := n) dX4_claim_175 ((hW11.rr 15 (by decide)).2.1) (show (f_X4_adds n (c.pti 0 0) a b ((p : Int32).toInt64) q y).1 = nI n from hcl) (by rw [(hW11.rr 15 (by decide)).2.2]; exact (n40 hcl hn c_119)) (by rw [(hW11.rr 15 (by decide)).2.2]; decide) hz ?_
                    have hW12 := hW11.pai (f := 15) (by decide) (k := n) (v := z)
                    have hF12 := hF11.uI (a := (w.ar 15)) (k := n) (v := z) (kd := 8) ((hW11.rr 15 (by decide)).2.1) (by decide)
                    refine s_iload dX4_claim_176 rfl ?_
                    exact s_reti dX4_claim_178 rfl rfl (NI.of (F := f_X4_claim n c a b p q y r s z) (x := (f_X4_adds n (c.pti 0 0) a b ((p : Int32).toInt64) q y).1) (by unfold f_X4_claim; rw [if_neg c_4, if_neg c_14, if_neg c_24, if_neg c_36, if_neg c_59, if_neg c_69, if_neg c_74, if_pos c_93, if_neg c_119]) hW12 hF12)
                  · skip
                    refine s_iconst (v := 2) dX4_claim_122 (by decide) ?_
                    refine s_goto (tgt := 127) dX4_claim_123 (by decide) ?_
                    refine s_cv1G (n := 49) dX4_claim_127 rfl (kv hW.mm (by decide) rfl) rfl (by decide) (by decide) (by decide) (by decide) (Nat.le_of_ble_eq_true rfl) (m_holdsP (p := 2) hW (by decide)) (fun r13 S13 hr13 => ?_) (fun x S2 hr => by obtain ⟨e, -⟩ := hr; cases e)
                    obtain ⟨e13, hW13, hG13⟩ := hr13
                    cases e13
                    have hF13 := hF.tr hG13
                    refine s_ifne (tgt := 135) dX4_claim_130 (by decide) (fun c => absurd c (by decide)) (fun _ => ?_)
                    refine s_iconst (v := 0) dX4_claim_133 (by decide) ?_
                    exact s_reti dX4_claim_134 rfl rfl (NI.of (F := f_X4_claim n c a b p q y r s z) (x := 0) (by unfold f_X4_claim; rw [if_neg c_4, if_neg c_14, if_neg c_24, if_neg c_36, if_neg c_59, if_neg c_69, if_neg c_74, if_pos c_93, if_pos c_119]) hW13 hF13)
              · skip
                refine s_iload dX4_claim_77 rfl ?_
                refine s_iconst (v := 0) dX4_claim_79 (by decide) ?_
                refine s_iconst (v := 3) dX4_claim_80 (by decide) ?_
                refine s_cs3R (n := 23) dX4_claim_81 rfl rfl (by decide) (by decide) (by decide) (by decide) (Nat.le_of_ble_eq_true rfl) (m_X4_isIn) ?_
                refine s_ifeq (tgt := 100) dX4_claim_84 (by decide) (fun c_84 => ?_) (fun c_84 => ?_)
                · skip
                  refine s_iconst (v := 0) dX4_claim_100 (by decide) ?_
                  refine s_istore dX4_claim_101 (by decide) ?_
                  refine s_aloadn dX4_claim_103 rfl rfl ?_
                  refine s_iload dX4_claim_104 rfl ?_
                  refine s_ifne (tgt := 113) dX4_claim_106 (by decide) (fun c => absurd c (by decide)) (fun _ => ?_)
                  refine s_iconst (v := 1) dX4_claim_109 (by decide) ?_
                  refine s_goto (tgt := 127) dX4_claim_110 (by decide) ?_
                  refine s_cv1G (n := 49) dX4_claim_127 rfl (kv hW.mm (by decide) rfl) rfl (by decide) (by decide) (by decide) (by decide) (Nat.le_of_ble_eq_true rfl) (m_holdsP (p := 1) hW (by decide)) (fun r14 S14 hr14 => ?_) (fun x S2 hr => by obtain ⟨e, -⟩ := hr; cases e)
                  obtain ⟨e14, hW14, hG14⟩ := hr14
                  cases e14
                  have hF14 := hF.tr hG14
                  refine s_ifne (tgt := 135) dX4_claim_130 (by decide) (fun c => absurd c (by decide)) (fun _ => ?_)
                  refine s_iconst (v := 0) dX4_claim_133 (by decide) ?_
                  exact s_reti dX4_claim_134 rfl rfl (NI.of (F := f_X4_claim n c a b p q y r s z) (x := 0) (by unfold f_X4_claim; rw [if_neg c_4, if_neg c_14, if_neg c_24, if_neg c_36, if_neg c_59, if_neg c_69, if_pos c_74, if_pos c_84]) hW14 hF14)
                · skip
                  refine s_goto (tgt := 96) dX4_claim_87 (by decide) ?_
                  refine s_iconst (v := 1) dX4_claim_96 (by decide) ?_
                  refine s_goto (tgt := 101) dX4_claim_97 (by decide) ?_
                  refine s_istore dX4_claim_101 (by decide) ?_
                  refine s_aloadn dX4_claim_103 rfl rfl ?_
                  refine s_iload dX4_claim_104 rfl ?_
                  refine s_ifne (tgt := 113) dX4_claim_106 (by decide) (fun _ => ?_) (fun c => absurd c (by decide))
                  refine s_aloadn dX4_claim_113 rfl rfl ?_
                  refine s_get (v := .int (c.ti 7)) (n := 68) dX4_claim_114 rfl hW.mm (congrArg Value.int (congrFun hW.ti 7)) ?_
                  refine s_bipush (v := 40) dX4_claim_117 (by decide) ?_
                  refine s_icne (tgt := 126) dX4_claim_119 (by decide) (fun c_119 => ?_) (fun c_119 => ?_)
                  · skip
                    refine s_iconst (v := 0) dX4_claim_126 (by decide) ?_
                    refine s_cv1G (n := 49) dX4_claim_127 rfl (kv hW.mm (by decide) rfl) rfl (by decide) (by decide) (by decide) (by decide) (Nat.le_of_ble_eq_true rfl) (m_holds0 hW) (fun r15 S15 hr15 => ?_) (fun x S2 hr => by obtain ⟨e, -⟩ := hr; cases e)
                    obtain ⟨e15, hW15, hG15⟩ := hr15
                    cases e15
                    have hF15 := hF.tr hG15
                    refine s_ifne (tgt := 135) dX4_claim_130 (by decide) (fun _ => ?_) (fun c => absurd c (by decide))
                    refine s_aloadn dX4_claim_135 rfl rfl ?_
                    refine s_iloadn dX4_claim_136 rfl rfl ?_
                    refine s_iloadn dX4_claim_137 rfl rfl ?_
                    refine s_iloadn dX4_claim_138 rfl rfl ?_
                    refine s_i2l dX4_claim_139 ?_
                    refine s_iload dX4_claim_140 rfl ?_
                    refine s_iload dX4_claim_142 rfl ?_
                    refine s_cv5G (n := 50) dX4_claim_144 rfl (kv hW15.mm (by decide) rfl) rfl (by decide) (by decide) (by decide) (by decide) (Nat.le_of_ble_eq_true rfl) (m_X4_adds (n := n) hW15 (show (c.pti 0 0).ti 7 = nI n from hcl) (n40 hcl hn c_119)) (fun r16 S16 hr16 => ?_) (fun x S2 hr => by obtain ⟨e, -⟩ := hr; cases e)
                    obtain ⟨e16, hW16, hG16⟩ := hr16
                    cases e16
                    have hF16 := hF15.tr hG16
                    refine s_istore dX4_claim_147 (by decide) ?_
                    refine s_aloadn dX4_claim_149 rfl rfl ?_
                    refine s_getR (n := 74) dX4_claim_150 rfl hW16.mm (fun _ _ _ => rfl) (hW16.rr 13 (by decide)).1 ?_
                    refine s_iload dX4_claim_153 rfl ?_
                    refine s_iload dX4_claim_155 rfl ?_
                    refine s_iast' (j := n) dX4_claim_157 ((hW16.rr 13 (by decide)).2.1) (show (f_X4_adds n (c.pti 0 0) a b ((p : Int32).toInt64) q y).1 = nI n from hcl) (by rw [(hW16.rr 13 (by decide)).2.2]; exact (n40 hcl hn c_119)) (by rw [(hW16.rr 13 (by decide)).2.2]; decide) ?_
                    have hW17 := hW16.pai (f := 13) (by decide) (k := n) (v := r)
                    have hF17 := hF16.uI (a := (w.ar 13)) (k := n) (v := r) (kd := 6) ((hW16.rr 13 (by decide)).2.1) (by decide)
                    refine s_aloadn dX4_claim_158 rfl rfl ?_
                    refine s_getR (n := 75) dX4_claim_159 rfl hW17.mm (fun _ _ _ => rfl) (hW17.rr 14 (by decide)).1 ?_
                    refine s_iload dX4_claim_162 rfl ?_
                    refine s_iload dX4_claim_164 rfl ?_
                    refine s_iast' (j := n) dX4_claim_166 ((hW17.rr 14 (by decide)).2.1) (show (f_X4_adds n (c.pti 0 0) a b ((p : Int32).toInt64) q y).1 = nI n from hcl) (by rw [(hW17.rr 14 (by decide)).2.2]; exact (n40 hcl hn c_119)) (by rw [(hW17.rr 14 (by decide)).2.2]; decide) ?_
                    have hW18 := hW17.pai (f := 14) (by decide) (k := n) (v := s)
                    have hF18 := hF17.uI (a := (w.ar 14)) (k := n) (v := s) (kd := 6) ((hW17.rr 14 (by decide)).2.1) (by decide)
                    refine s_aloadn dX4_claim_167 rfl rfl ?_
                    refine s_getR (n := 76) dX4_claim_168 rfl hW18.mm (fun _ _ _ => rfl) (hW18.rr 15 (by decide)).1 ?_
                    refine s_iload dX4_claim_171 rfl ?_
                    refine s_iload dX4_claim_173 rfl ?_
                    refine s_zast' (j := n) dX4_claim_175 ((hW18.rr 15 (by decide)).2.1) (show (f_X4_adds n (c.pti 0 0) a b ((p : Int32).toInt64) q y).1 = nI n from hcl) (by rw [(hW18.rr 15 (by decide)).2.2]; exact (n40 hcl hn c_119)) (by rw [(hW18.rr 15 (by decide)).2.2]; decide) hz ?_
                    have hW19 := hW18.pai (f := 15) (by decide) (k := n) (v := z)
                    have hF19 := hF18.uI (a := (w.ar 15)) (k := n) (v := z) (kd := 8) ((hW18.rr 15 (by decide)).2.1) (by decide)
                    refine s_iload dX4_claim_176 rfl ?_
                    exact s_reti dX4_claim_178 rfl rfl (NI.of (F := f_X4_claim n c a b p q y r s z) (x := (f_X4_adds n (c.pti 0 0) a b ((p : Int32).toInt64) q y).1) (by unfold f_X4_claim; rw [if_neg c_4, if_neg c_14, if_neg c_24, if_neg c_36, if_neg c_59, if_neg c_69, if_pos c_74, if_neg c_84, if_neg c_119]) hW19 hF19)
                  · skip
                    refine s_iconst (v := 2) dX4_claim_122 (by decide) ?_
                    refine s_goto (tgt := 127) dX4_claim_123 (by decide) ?_
                    refine s_cv1G (n := 49) dX4_claim_127 rfl (kv hW.mm (by decide) rfl) rfl (by decide) (by decide) (by decide) (by decide) (Nat.le_of_ble_eq_true rfl) (m_holdsP (p := 2) hW (by decide)) (fun r20 S20 hr20 => ?_) (fun x S2 hr => by obtain ⟨e, -⟩ := hr; cases e)
                    obtain ⟨e20, hW20, hG20⟩ := hr20
                    cases e20
                    have hF20 := hF.tr hG20
                    refine s_ifne (tgt := 135) dX4_claim_130 (by decide) (fun c => absurd c (by decide)) (fun _ => ?_)
                    refine s_iconst (v := 0) dX4_claim_133 (by decide) ?_
                    exact s_reti dX4_claim_134 rfl rfl (NI.of (F := f_X4_claim n c a b p q y r s z) (x := 0) (by unfold f_X4_claim; rw [if_neg c_4, if_neg c_14, if_neg c_24, if_neg c_36, if_neg c_59, if_neg c_69, if_pos c_74, if_neg c_84, if_pos c_119]) hW20 hF20)
def f_X4_ends (c : MC) (k : Nat) : MC := (((c.pai 16 k 1).ptj 2 ((c.tj 2) + (c.aj 18 k))).paj 18 k 0)
set_option maxHeartbeats 4000000 in
theorem m_X4_ends {tm : Nat × Nat} {S : Sto} {w : MAd} {c : MC} {k : Nat} (hW : MW S w c) (hk : k < 40) : Ev tm M_X4_ends [.ref w.mm, .int (nI k)] S (NV w S (f_X4_ends c k)) := by
  have hF : FrM S S := FrM.rf
  refine ev_in ok_X4_ends (Nat.le_of_ble_eq_true rfl) ?_
  refine s_aloadn dX4_ends_0 rfl rfl ?_
  refine s_getR (n := 77) dX4_ends_1 rfl hW.mm (fun _ _ _ => rfl) (hW.rr 16 (by decide)).1 ?_
  refine s_iloadn dX4_ends_4 rfl rfl ?_
  refine s_iconst (v := 1) dX4_ends_5 (by decide) ?_
  refine s_iast' (j := k) dX4_ends_6 ((hW.rr 16 (by decide)).2.1) rfl (by rw [(hW.rr 16 (by decide)).2.2]; exact hk) (by rw [(hW.rr 16 (by decide)).2.2]; decide) ?_
  have hW1 := hW.pai (f := 16) (by decide) (k := k) (v := 1)
  have hF1 := hF.uI (a := (w.ar 16)) (k := k) (v := 1) (kd := 6) ((hW.rr 16 (by decide)).2.1) (by decide)
  refine s_aloadn dX4_ends_7 rfl rfl ?_
  refine s_dup dX4_ends_8 rfl ?_
  refine s_get (v := .long (c.tj 2)) (n := 63) dX4_ends_9 rfl hW1.mm (congrArg Value.long (congrFun hW1.tj 2)) ?_
  refine s_aloadn dX4_ends_12 rfl rfl ?_
  refine s_getR (n := 79) dX4_ends_13 rfl hW1.mm (fun _ _ _ => rfl) (hW1.rr 18 (by decide)).1 ?_
  refine s_iloadn dX4_ends_16 rfl rfl ?_
  refine s_lald' (j := k) dX4_ends_17 (Or.inr (Or.inl (hW1.rr 18 (by decide)).2.1)) rfl (by rw [(hW1.rr 18 (by decide)).2.2]; exact hk) (by rw [(hW1.rr 18 (by decide)).2.2]; decide) ?_
  rw [hW1.aj 18 (by decide)]
  refine s_ladd dX4_ends_18 ?_
  refine s_putJ (n := 63) dX4_ends_19 rfl hW1.mm (Or.inl rfl) (fun _ _ _ => rfl) rfl rfl ?_
  have hW2 := hW1.ptj (k := 2) (v := (c.tj 2) + (c.aj 18 k))
  have hF2 := hF1.uJ (a := w.mm) (k := 2) (v := (c.tj 2) + (c.aj 18 k)) (kd := 5) hW1.mm (by decide)
  refine s_aloadn dX4_ends_22 rfl rfl ?_
  refine s_getR (n := 79) dX4_ends_23 rfl hW2.mm (fun _ _ _ => rfl) (hW2.rr 18 (by decide)).1 ?_
  refine s_iloadn dX4_ends_26 rfl rfl ?_
  refine s_lconst (v := 0) dX4_ends_27 (by decide) ?_
  refine s_last' (j := k) dX4_ends_28 (Or.inr (Or.inl (hW2.rr 18 (by decide)).2.1)) rfl (by rw [(hW2.rr 18 (by decide)).2.2]; exact hk) (by rw [(hW2.rr 18 (by decide)).2.2]; decide) ?_
  have hW3 := hW2.paj (f := 18) (by decide) (k := k) (v := 0)
  have hF3 := hF2.uJ (a := (w.ar 18)) (k := k) (v := 0) (kd := 10) ((hW2.rr 18 (by decide)).2.1) (by decide)
  exact s_retv dX4_ends_29 rfl (NV.of (F := f_X4_ends c k) (by unfold f_X4_ends; rfl) hW3 hF3)
def f_X4_offer (no : Nat) (c : MC) (a q y : Int32) : Int32 × MC := if (f_X4_isIn a 0 99) = 0 then (0, (c.pti 0 1)) else (if (f_X4_isIn q 0 1000) = 0 then (0, (c.pti 0 1)) else (if (f_X4_isIn y 1 30) = 0 then (0, (c.pti 0 1)) else (if (c.ti 23) = 12 then (0, (c.pti 0 2)) else (((c.ti 23) + 1) - 1, (((((c.pti 0 0).pai 24 no a).pai 25 no q).pai 26 no y).pti 23 ((c.ti 23) + 1))))))
set_option maxHeartbeats 4000000 in
theorem m_X4_offer {tm : Nat × Nat} {S : Sto} {w : MAd} {c : MC} {no : Nat} {a q y : Int32} (hW : MW S w c) (hco : c.ti 23 = nI no) (hno : no ≤ 12)  : Ev tm M_X4_offer [.ref w.mm, .int a, .int q, .int y] S (NI w S (f_X4_offer no c a q y)) := by
  have hF : FrM S S := FrM.rf
  refine ev_in ok_X4_offer (Nat.le_of_ble_eq_true rfl) ?_
  refine s_iloadn dX4_offer_0 rfl rfl ?_
  refine s_iconst (v := 0) dX4_offer_1 (by decide) ?_
  refine s_bipush (v := 99) dX4_offer_2 (by decide) ?_
  refine s_cs3R (n := 23) dX4_offer_4 rfl rfl (by decide) (by decide) (by decide) (by decide) (Nat.le_of_ble_eq_true rfl) (m_X4_isIn) ?_
  refine s_ifeq (tgt := 35) dX4_offer_7 (by decide) (fun c_7 => ?_) (fun c_7 => ?_)
  · skip
    refine s_iconst (v := 0) dX4_offer_35 (by decide) ?_
    refine s_istore dX4_offer_36 (by decide) ?_
    refine s_aloadn dX4_offer_38 rfl rfl ?_
    refine s_iload dX4_offer_39 rfl ?_
    refine s_ifne (tgt := 48) dX4_offer_41 (by decide) (fun c => absurd c (by decide)) (fun _ => ?_)
    refine s_iconst (v := 1) dX4_offer_44 (by decide) ?_
    refine s_goto (tgt := 62) dX4_offer_45 (by decide) ?_
    refine s_cv1G (n := 49) dX4_offer_62 rfl (kv hW.mm (by decide) rfl) rfl (by decide) (by decide) (by decide) (by decide) (Nat.le_of_ble_eq_true rfl) (m_holdsP (p := 1) hW (by decide)) (fun r1 S1 hr1 => ?_) (fun x S2 hr => by obtain ⟨e, -⟩ := hr; cases e)
    obtain ⟨e1, hW1, hG1⟩ := hr1
    cases e1
    have hF1 := hF.tr hG1
    refine s_ifne (tgt := 70) dX4_offer_65 (by decide) (fun c => absurd c (by decide)) (fun _ => ?_)
    refine s_iconst (v := 0) dX4_offer_68 (by decide) ?_
    exact s_reti dX4_offer_69 rfl rfl (NI.of (F := f_X4_offer no c a q y) (x := 0) (by unfold f_X4_offer; rw [if_pos c_7]) hW1 hF1)
  · skip
    refine s_iloadn dX4_offer_10 rfl rfl ?_
    refine s_iconst (v := 0) dX4_offer_11 (by decide) ?_
    refine s_sipush (v := 1000) dX4_offer_12 (by decide) ?_
    refine s_cs3R (n := 23) dX4_offer_15 rfl rfl (by decide) (by decide) (by decide) (by decide) (Nat.le_of_ble_eq_true rfl) (m_X4_isIn) ?_
    refine s_ifeq (tgt := 35) dX4_offer_18 (by decide) (fun c_18 => ?_) (fun c_18 => ?_)
    · skip
      refine s_iconst (v := 0) dX4_offer_35 (by decide) ?_
      refine s_istore dX4_offer_36 (by decide) ?_
      refine s_aloadn dX4_offer_38 rfl rfl ?_
      refine s_iload dX4_offer_39 rfl ?_
      refine s_ifne (tgt := 48) dX4_offer_41 (by decide) (fun c => absurd c (by decide)) (fun _ => ?_)
      refine s_iconst (v := 1) dX4_offer_44 (by decide) ?_
      refine s_goto (tgt := 62) dX4_offer_45 (by decide) ?_
      refine s_cv1G (n := 49) dX4_offer_62 rfl (kv hW.mm (by decide) rfl) rfl (by decide) (by decide) (by decide) (by decide) (Nat.le_of_ble_eq_true rfl) (m_holdsP (p := 1) hW (by decide)) (fun r2 S2 hr2 => ?_) (fun x S2 hr => by obtain ⟨e, -⟩ := hr; cases e)
      obtain ⟨e2, hW2, hG2⟩ := hr2
      cases e2
      have hF2 := hF.tr hG2
      refine s_ifne (tgt := 70) dX4_offer_65 (by decide) (fun c => absurd c (by decide)) (fun _ => ?_)
      refine s_iconst (v := 0) dX4_offer_68 (by decide) ?_
      exact s_reti dX4_offer_69 rfl rfl (NI.of (F := f_X4_offer no c a q y) (x := 0) (by unfold f_X4_offer; rw [if_neg c_7, if_pos c_18]) hW2 hF2)
    · skip
      refine s_iloadn dX4_offer_21 rfl rfl ?_
      refine s_iconst (v := 1) dX4_offer_22 (by decide) ?_
      refine s_bipush (v := 30) dX4_offer_23 (by decide) ?_
      refine s_cs3R (n := 23) dX4_offer_25 rfl rfl (by decide) (by decide) (by decide) (by decide) (Nat.le_of_ble_eq_true rfl) (m_X4_isIn) ?_
      refine s_ifeq (tgt := 35) dX4_offer_28 (by decide) (fun c_28 => ?_) (fun c_28 => ?_)
      · skip
        refine s_iconst (v := 0) dX4_offer_35 (by decide) ?_
        refine s_istore dX4_offer_36 (by decide) ?_
        refine s_aloadn dX4_offer_38 rfl rfl ?_
        refine s_iload dX4_offer_39 rfl ?_
        refine s_ifne (tgt := 48) dX4_offer_41 (by decide) (fun c => absurd c (by decide)) (fun _ => ?_)
        refine s_iconst (v := 1) dX4_offer_44 (by decide) ?_
        refine s_goto (tgt := 62) dX4_offer_45 (by decide) ?_
        refine s_cv1G (n := 49) dX4_offer_62 rfl (kv hW.mm (by decide) rfl) rfl (by decide) (by decide) (by decide) (by decide) (Nat.le_of_ble_eq_true rfl) (m_holdsP (p := 1) hW (by decide)) (fun r3 S3 hr3 => ?_) (fun x S2 hr => by obtain ⟨e, -⟩ := hr; cases e)
        obtain ⟨e3, hW3, hG3⟩ := hr3
        cases e3
        have hF3 := hF.tr hG3
        refine s_ifne (tgt := 70) dX4_offer_65 (by decide) (fun c => absurd c (by decide)) (fun _ => ?_)
        refine s_iconst (v := 0) dX4_offer_68 (by decide) ?_
        exact s_reti dX4_offer_69 rfl rfl (NI.of (F := f_X4_offer no c a q y) (x := 0) (by unfold f_X4_offer; rw [if_neg c_7, if_neg c_18, if_pos c_28]) hW3 hF3)
      · skip
        refine s_iconst (v := 1) dX4_offer_31 (by decide) ?_
        refine s_goto (tgt := 36) dX4_offer_32 (by decide) ?_
        refine s_istore dX4_offer_36 (by decide) ?_
        refine s_aloadn dX4_offer_38 rfl rfl ?_
        refine s_iload dX4_offer_39 rfl ?_
        refine s_ifne (tgt := 48) dX4_offer_41 (by decide) (fun _ => ?_) (fun c => absurd c (by decide))
        refine s_aloadn dX4_offer_48 rfl rfl ?_
        refine s_get (v := .int (c.ti 23)) (n := 84) dX4_offer_49 rfl hW.mm (congrArg Value.int (congrFun hW.ti 23)) ?_
        refine s_bipush (v := 12) dX4_offer_52 (by decide) ?_
        refine s_icne (tgt := 61) dX4_offer_54 (by decide) (fun c_54 => ?_) (fun c_54 => ?_)
        · skip
          refine s_iconst (v := 0) dX4_offer_61 (by decide) ?_
          refine s_cv1G (n := 49) dX4_offer_62 rfl (kv hW.mm (by decide) rfl) rfl (by decide) (by decide) (by decide) (by decide) (Nat.le_of_ble_eq_true rfl) (m_holds0 hW) (fun r4 S4 hr4 => ?_) (fun x S2 hr => by obtain ⟨e, -⟩ := hr; cases e)
          obtain ⟨e4, hW4, hG4⟩ := hr4
          cases e4
          have hF4 := hF.tr hG4
          refine s_ifne (tgt := 70) dX4_offer_65 (by decide) (fun _ => ?_) (fun c => absurd c (by decide))
          refine s_aloadn dX4_offer_70 rfl rfl ?_
          refine s_getR (n := 85) dX4_offer_71 rfl hW4.mm (fun _ _ _ => rfl) (hW4.rr 24 (by decide)).1 ?_
          refine s_aloadn dX4_offer_74 rfl rfl ?_
          refine s_get (v := .int (c.ti 23)) (n := 84) dX4_offer_75 rfl hW4.mm (congrArg Value.int (congrFun hW4.ti 23)) ?_
          refine s_iloadn dX4_offer_78 rfl rfl ?_
          refine s_iast' (j := no) dX4_offer_79 ((hW4.rr 24 (by decide)).2.1) hco (by rw [(hW4.rr 24 (by decide)).2.2]; exact (nlt (b := 12) hco hno c_54)) (by rw [(hW4.rr 24 (by decide)).2.2]; decide) ?_
          have hW5 := hW4.pai (f := 24) (by decide) (k := no) (v := a)
          have hF5 := hF4.uI (a := (w.ar 24)) (k := no) (v := a) (kd := 6) ((hW4.rr 24 (by decide)).2.1) (by decide)
          refine s_aloadn dX4_offer_80 rfl rfl ?_
          refine s_getR (n := 86) dX4_offer_81 rfl hW5.mm (fun _ _ _ => rfl) (hW5.rr 25 (by decide)).1 ?_
          refine s_aloadn dX4_offer_84 rfl rfl ?_
          refine s_get (v := .int (c.ti 23)) (n := 84) dX4_offer_85 rfl hW5.mm (congrArg Value.int (congrFun hW5.ti 23)) ?_
          refine s_iloadn dX4_offer_88 rfl rfl ?_
          refine s_iast' (j := no) dX4_offer_89 ((hW5.rr 25 (by decide)).2.1) hco (by rw [(hW5.rr 25 (by decide)).2.2]; exact (nlt (b := 12) hco hno c_54)) (by rw [(hW5.rr 25 (by decide)).2.2]; decide) ?_
          have hW6 := hW5.pai (f := 25) (by decide) (k := no) (v := q)
          have hF6 := hF5.uI (a := (w.ar 25)) (k := no) (v := q) (kd := 6) ((hW5.rr 25 (by decide)).2.1) (by decide)
          refine s_aloadn dX4_offer_90 rfl rfl ?_
          refine s_getR (n := 87) dX4_offer_91 rfl hW6.mm (fun _ _ _ => rfl) (hW6.rr 26 (by decide)).1 ?_
          refine s_aloadn dX4_offer_94 rfl rfl ?_
          refine s_get (v := .int (c.ti 23)) (n := 84) dX4_offer_95 rfl hW6.mm (congrArg Value.int (congrFun hW6.ti 23)) ?_
          refine s_iloadn dX4_offer_98 rfl rfl ?_
          refine s_iast' (j := no) dX4_offer_99 ((hW6.rr 26 (by decide)).2.1) hco (by rw [(hW6.rr 26 (by decide)).2.2]; exact (nlt (b := 12) hco hno c_54)) (by rw [(hW6.rr 26 (by decide)).2.2]; decide) ?_
          have hW7 := hW6.pai (f := 26) (by decide) (k := no) (v := y)
          have hF7 := hF6.uI (a := (w.ar 26)) (k := no) (v := y) (kd := 6) ((hW6.rr 26 (by decide)).2.1) (by decide)
          refine s_aloadn dX4_offer_100 rfl rfl ?_
          refine s_dup dX4_offer_101 rfl ?_
          refine s_get (v := .int (c.ti 23)) (n := 84) dX4_offer_102 rfl hW7.mm (congrArg Value.int (congrFun hW7.ti 23)) ?_
          refine s_iconst (v := 1) dX4_offer_105 (by decide) ?_
          refine s_iadd dX4_offer_106 ?_
          refine s_putI (n := 84) dX4_offer_107 rfl hW7.mm (Or.inl rfl) (fun _ _ _ => rfl) rfl rfl ?_
          have hW8 := hW7.pti (k := 23) (v := (c.ti 23) + 1)
          have hF8 := hF7.uI (a := w.mm) (k := 23) (v := (c.ti 23) + 1) (kd := 5) hW7.mm (by decide)
          refine s_aloadn dX4_offer_110 rfl rfl ?_
          refine s_get (v := .int ((c.ti 23) + 1)) (n := 84) dX4_offer_111 rfl hW8.mm (congrArg Value.int (congrFun hW8.ti 23)) ?_
          refine s_iconst (v := 1) dX4_offer_114 (by decide) ?_
          refine s_isub dX4_offer_115 ?_
          exact s_reti dX4_offer_116 rfl rfl (NI.of (F := f_X4_offer no c a q y) (x := ((c.ti 23) + 1) - 1) (by unfold f_X4_offer; rw [if_neg c_7, if_neg c_18, if_neg c_28, if_neg c_54]) hW8 hF8)
        · skip
          refine s_iconst (v := 2) dX4_offer_57 (by decide) ?_
          refine s_goto (tgt := 62) dX4_offer_58 (by decide) ?_
          refine s_cv1G (n := 49) dX4_offer_62 rfl (kv hW.mm (by decide) rfl) rfl (by decide) (by decide) (by decide) (by decide) (Nat.le_of_ble_eq_true rfl) (m_holdsP (p := 2) hW (by decide)) (fun r9 S9 hr9 => ?_) (fun x S2 hr => by obtain ⟨e, -⟩ := hr; cases e)
          obtain ⟨e9, hW9, hG9⟩ := hr9
          cases e9
          have hF9 := hF.tr hG9
          refine s_ifne (tgt := 70) dX4_offer_65 (by decide) (fun c => absurd c (by decide)) (fun _ => ?_)
          refine s_iconst (v := 0) dX4_offer_68 (by decide) ?_
          exact s_reti dX4_offer_69 rfl rfl (NI.of (F := f_X4_offer no c a q y) (x := 0) (by unfold f_X4_offer; rw [if_neg c_7, if_neg c_18, if_neg c_28, if_pos c_54]) hW9 hF9)
def f_X4_thing (nt : Nat) (c : MC) (v : Int32) : Int32 × MC := if (f_X4_isIn v 1 1000000) = 0 then (0, (c.pti 0 1)) else (if (c.ti 31) = 10 then (0, (c.pti 0 2)) else (((c.ti 31) + 1) - 1, (((c.pti 0 0).pai 32 nt v).pti 31 ((c.ti 31) + 1))))
set_option maxHeartbeats 4000000 in
theorem m_X4_thing {tm : Nat × Nat} {S : Sto} {w : MAd} {c : MC} {nt : Nat} {v : Int32} (hW : MW S w c) (hct : c.ti 31 = nI nt) (hnt : nt ≤ 10)  : Ev tm M_X4_thing [.ref w.mm, .int v] S (NI w S (f_X4_thing nt c v)) := by
  have hF : FrM S S := FrM.rf
  refine ev_in ok_X4_thing (Nat.le_of_ble_eq_true rfl) ?_
  refine s_aloadn dX4_thing_0 rfl rfl ?_
  refine s_iloadn dX4_thing_1 rfl rfl ?_
  refine s_iconst (v := 1) dX4_thing_2 (by decide) ?_
  refine s_ldc (v := 1000000) dX4_thing_3 cst_RX4_117 ?_
  refine s_cs3R (n := 23) dX4_thing_5 rfl rfl (by decide) (by decide) (by decide) (by decide) (Nat.le_of_ble_eq_true rfl) (m_X4_isIn) ?_
  refine s_ifne (tgt := 15) dX4_thing_8 (by decide) (fun c_8 => ?_) (fun c_8 => ?_)
  · skip
    refine s_aloadn dX4_thing_15 rfl rfl ?_
    refine s_get (v := .int (c.ti 31)) (n := 92) dX4_thing_16 rfl hW.mm (congrArg Value.int (congrFun hW.ti 31)) ?_
    refine s_bipush (v := 10) dX4_thing_19 (by decide) ?_
    refine s_icne (tgt := 28) dX4_thing_21 (by decide) (fun c_21 => ?_) (fun c_21 => ?_)
    · skip
      refine s_iconst (v := 0) dX4_thing_28 (by decide) ?_
      refine s_cv1G (n := 49) dX4_thing_29 rfl (kv hW.mm (by decide) rfl) rfl (by decide) (by decide) (by decide) (by decide) (Nat.le_of_ble_eq_true rfl) (m_holds0 hW) (fun r1 S1 hr1 => ?_) (fun x S2 hr => by obtain ⟨e, -⟩ := hr; cases e)
      obtain ⟨e1, hW1, hG1⟩ := hr1
      cases e1
      have hF1 := hF.tr hG1
      refine s_ifne (tgt := 37) dX4_thing_32 (by decide) (fun _ => ?_) (fun c => absurd c (by decide))
      refine s_aloadn dX4_thing_37 rfl rfl ?_
      refine s_getR (n := 93) dX4_thing_38 rfl hW1.mm (fun _ _ _ => rfl) (hW1.rr 32 (by decide)).1 ?_
      refine s_aloadn dX4_thing_41 rfl rfl ?_
      refine s_get (v := .int (c.ti 31)) (n := 92) dX4_thing_42 rfl hW1.mm (congrArg Value.int (congrFun hW1.ti 31)) ?_
      refine s_iloadn dX4_thing_45 rfl rfl ?_
      refine s_iast' (j := nt) dX4_thing_46 ((hW1.rr 32 (by decide)).2.1) hct (by rw [(hW1.rr 32 (by decide)).2.2]; exact (nlt (b := 10) hct hnt c_21)) (by rw [(hW1.rr 32 (by decide)).2.2]; decide) ?_
      have hW2 := hW1.pai (f := 32) (by decide) (k := nt) (v := v)
      have hF2 := hF1.uI (a := (w.ar 32)) (k := nt) (v := v) (kd := 6) ((hW1.rr 32 (by decide)).2.1) (by decide)
      refine s_aloadn dX4_thing_47 rfl rfl ?_
      refine s_dup dX4_thing_48 rfl ?_
      refine s_get (v := .int (c.ti 31)) (n := 92) dX4_thing_49 rfl hW2.mm (congrArg Value.int (congrFun hW2.ti 31)) ?_
      refine s_iconst (v := 1) dX4_thing_52 (by decide) ?_
      refine s_iadd dX4_thing_53 ?_
      refine s_putI (n := 92) dX4_thing_54 rfl hW2.mm (Or.inl rfl) (fun _ _ _ => rfl) rfl rfl ?_
      have hW3 := hW2.pti (k := 31) (v := (c.ti 31) + 1)
      have hF3 := hF2.uI (a := w.mm) (k := 31) (v := (c.ti 31) + 1) (kd := 5) hW2.mm (by decide)
      refine s_aloadn dX4_thing_57 rfl rfl ?_
      refine s_get (v := .int ((c.ti 31) + 1)) (n := 92) dX4_thing_58 rfl hW3.mm (congrArg Value.int (congrFun hW3.ti 31)) ?_
      refine s_iconst (v := 1) dX4_thing_61 (by decide) ?_
      refine s_isub dX4_thing_62 ?_
      exact s_reti dX4_thing_63 rfl rfl (NI.of (F := f_X4_thing nt c v) (x := ((c.ti 31) + 1) - 1) (by unfold f_X4_thing; rw [if_neg c_8, if_neg c_21]) hW3 hF3)
    · skip
      refine s_iconst (v := 2) dX4_thing_24 (by decide) ?_
      refine s_goto (tgt := 29) dX4_thing_25 (by decide) ?_
      refine s_cv1G (n := 49) dX4_thing_29 rfl (kv hW.mm (by decide) rfl) rfl (by decide) (by decide) (by decide) (by decide) (Nat.le_of_ble_eq_true rfl) (m_holdsP (p := 2) hW (by decide)) (fun r4 S4 hr4 => ?_) (fun x S2 hr => by obtain ⟨e, -⟩ := hr; cases e)
      obtain ⟨e4, hW4, hG4⟩ := hr4
      cases e4
      have hF4 := hF.tr hG4
      refine s_ifne (tgt := 37) dX4_thing_32 (by decide) (fun c => absurd c (by decide)) (fun _ => ?_)
      refine s_iconst (v := 0) dX4_thing_35 (by decide) ?_
      exact s_reti dX4_thing_36 rfl rfl (NI.of (F := f_X4_thing nt c v) (x := 0) (by unfold f_X4_thing; rw [if_neg c_8, if_pos c_21]) hW4 hF4)
  · skip
    refine s_iconst (v := 1) dX4_thing_11 (by decide) ?_
    refine s_goto (tgt := 29) dX4_thing_12 (by decide) ?_
    refine s_cv1G (n := 49) dX4_thing_29 rfl (kv hW.mm (by decide) rfl) rfl (by decide) (by decide) (by decide) (by decide) (Nat.le_of_ble_eq_true rfl) (m_holdsP (p := 1) hW (by decide)) (fun r5 S5 hr5 => ?_) (fun x S2 hr => by obtain ⟨e, -⟩ := hr; cases e)
    obtain ⟨e5, hW5, hG5⟩ := hr5
    cases e5
    have hF5 := hF.tr hG5
    refine s_ifne (tgt := 37) dX4_thing_32 (by decide) (fun c => absurd c (by decide)) (fun _ => ?_)
    refine s_iconst (v := 0) dX4_thing_35 (by decide) ?_
    exact s_reti dX4_thing_36 rfl rfl (NI.of (F := f_X4_thing nt c v) (x := 0) (by unfold f_X4_thing; rw [if_pos c_8]) hW5 hF5)
def f_X4_vote (n : Nat) (no : Nat) (c : MC) (k o z : Int32) : MC := if (f_X4_isClaim c k) = 0 then (c.pti 0 1) else (if (f_X4_isOffer c o) = 0 then (c.pti 0 1) else (if (f_X4_isVoter c (ix k)) = 0 then (c.pti 0 2) else (if z = 0 then ((c.pti 0 0).pai 27 (40 * ix o + ix k) 2) else ((c.pti 0 0).pai 27 (40 * ix o + ix k) 1))))
set_option maxHeartbeats 4000000 in
theorem m_X4_vote {tm : Nat × Nat} {S : Sto} {w : MAd} {c : MC} {n : Nat} {no : Nat} {k o z : Int32} (hW : MW S w c) (hcl : c.ti 7 = nI n) (hn : n ≤ 40) (hco : c.ti 23 = nI no) (hno : no ≤ 12) (hz : z = 0 ∨ z = 1) : Ev tm M_X4_vote [.ref w.mm, .int k, .int o, .int z] S (NV w S (f_X4_vote n no c k o z)) := by
  have hF : FrM S S := FrM.rf
  refine ev_in ok_X4_vote (Nat.le_of_ble_eq_true rfl) ?_
  refine s_aloadn dX4_vote_0 rfl rfl ?_
  refine s_iloadn dX4_vote_1 rfl rfl ?_
  refine s_cv1R (n := 51) dX4_vote_2 rfl (kv hW.mm (by decide) rfl) rfl (by decide) (by decide) (by decide) (by decide) (Nat.le_of_ble_eq_true rfl) (m_X4_isClaim hW) ?_
  refine s_ifeq (tgt := 20) dX4_vote_5 (by decide) (fun c_5 => ?_) (fun c_5 => ?_)
  · skip
    refine s_iconst (v := 0) dX4_vote_20 (by decide) ?_
    refine s_istore dX4_vote_21 (by decide) ?_
    refine s_aloadn dX4_vote_23 rfl rfl ?_
    refine s_iload dX4_vote_24 rfl ?_
    refine s_ifne (tgt := 33) dX4_vote_26 (by decide) (fun c => absurd c (by decide)) (fun _ => ?_)
    refine s_iconst (v := 1) dX4_vote_29 (by decide) ?_
    refine s_goto (tgt := 46) dX4_vote_30 (by decide) ?_
    refine s_cv1G (n := 49) dX4_vote_46 rfl (kv hW.mm (by decide) rfl) rfl (by decide) (by decide) (by decide) (by decide) (Nat.le_of_ble_eq_true rfl) (m_holdsP (p := 1) hW (by decide)) (fun r1 S1 hr1 => ?_) (fun x S2 hr => by obtain ⟨e, -⟩ := hr; cases e)
    obtain ⟨e1, hW1, hG1⟩ := hr1
    cases e1
    have hF1 := hF.tr hG1
    refine s_ifeq (tgt := 72) dX4_vote_49 (by decide) (fun _ => ?_) (fun c => absurd c (by decide))
    exact s_retv dX4_vote_72 rfl (NV.of (F := f_X4_vote n no c k o z) (by unfold f_X4_vote; rw [if_pos c_5]) hW1 hF1)
  · skip
    refine s_aloadn dX4_vote_8 rfl rfl ?_
    refine s_iloadn dX4_vote_9 rfl rfl ?_
    refine s_cv1R (n := 61) dX4_vote_10 rfl (kv hW.mm (by decide) rfl) rfl (by decide) (by decide) (by decide) (by decide) (Nat.le_of_ble_eq_true rfl) (m_X4_isOffer hW) ?_
    refine s_ifeq (tgt := 20) dX4_vote_13 (by decide) (fun c_13 => ?_) (fun c_13 => ?_)
    · skip
      refine s_iconst (v := 0) dX4_vote_20 (by decide) ?_
      refine s_istore dX4_vote_21 (by decide) ?_
      refine s_aloadn dX4_vote_23 rfl rfl ?_
      refine s_iload dX4_vote_24 rfl ?_
      refine s_ifne (tgt := 33) dX4_vote_26 (by decide) (fun c => absurd c (by decide)) (fun _ => ?_)
      refine s_iconst (v := 1) dX4_vote_29 (by decide) ?_
      refine s_goto (tgt := 46) dX4_vote_30 (by decide) ?_
      refine s_cv1G (n := 49) dX4_vote_46 rfl (kv hW.mm (by decide) rfl) rfl (by decide) (by decide) (by decide) (by decide) (Nat.le_of_ble_eq_true rfl) (m_holdsP (p := 1) hW (by decide)) (fun r2 S2 hr2 => ?_) (fun x S2 hr => by obtain ⟨e, -⟩ := hr; cases e)
      obtain ⟨e2, hW2, hG2⟩ := hr2
      cases e2
      have hF2 := hF.tr hG2
      refine s_ifeq (tgt := 72) dX4_vote_49 (by decide) (fun _ => ?_) (fun c => absurd c (by decide))
      exact s_retv dX4_vote_72 rfl (NV.of (F := f_X4_vote n no c k o z) (by unfold f_X4_vote; rw [if_neg c_5, if_pos c_13]) hW2 hF2)
    · skip
      refine s_iconst (v := 1) dX4_vote_16 (by decide) ?_
      refine s_goto (tgt := 21) dX4_vote_17 (by decide) ?_
      refine s_istore dX4_vote_21 (by decide) ?_
      refine s_aloadn dX4_vote_23 rfl rfl ?_
      refine s_iload dX4_vote_24 rfl ?_
      refine s_ifne (tgt := 33) dX4_vote_26 (by decide) (fun _ => ?_) (fun c => absurd c (by decide))
      refine s_aloadn dX4_vote_33 rfl rfl ?_
      refine s_iloadn dX4_vote_34 rfl rfl ?_
      refine s_cv1R (n := 63) dX4_vote_35 rfl (kv hW.mm (by decide) rfl) rfl (by decide) (by decide) (by decide) (by decide) (Nat.le_of_ble_eq_true rfl) (by have q : Ev tm M_X4_isVoter [.ref w.mm, .int (nI (ix k))] S _ := m_X4_isVoter hW (Nat.lt_of_lt_of_le (inr_lt (isC hcl hn c_5) hn) hn); rw [← ((inr_ix (isC hcl hn c_5)).symm)] at q; exact q) ?_
      refine s_ifeq (tgt := 45) dX4_vote_38 (by decide) (fun c_38 => ?_) (fun c_38 => ?_)
      · skip
        refine s_iconst (v := 2) dX4_vote_45 (by decide) ?_
        refine s_cv1G (n := 49) dX4_vote_46 rfl (kv hW.mm (by decide) rfl) rfl (by decide) (by decide) (by decide) (by decide) (Nat.le_of_ble_eq_true rfl) (m_holdsP (p := 2) hW (by decide)) (fun r3 S3 hr3 => ?_) (fun x S2 hr => by obtain ⟨e, -⟩ := hr; cases e)
        obtain ⟨e3, hW3, hG3⟩ := hr3
        cases e3
        have hF3 := hF.tr hG3
        refine s_ifeq (tgt := 72) dX4_vote_49 (by decide) (fun _ => ?_) (fun c => absurd c (by decide))
        exact s_retv dX4_vote_72 rfl (NV.of (F := f_X4_vote n no c k o z) (by unfold f_X4_vote; rw [if_neg c_5, if_neg c_13, if_pos c_38]) hW3 hF3)
      · skip
        refine s_iconst (v := 0) dX4_vote_41 (by decide) ?_
        refine s_goto (tgt := 46) dX4_vote_42 (by decide) ?_
        refine s_cv1G (n := 49) dX4_vote_46 rfl (kv hW.mm (by decide) rfl) rfl (by decide) (by decide) (by decide) (by decide) (Nat.le_of_ble_eq_true rfl) (m_holds0 hW) (fun r4 S4 hr4 => ?_) (fun x S2 hr => by obtain ⟨e, -⟩ := hr; cases e)
        obtain ⟨e4, hW4, hG4⟩ := hr4
        cases e4
        have hF4 := hF.tr hG4
        refine s_ifeq (tgt := 72) dX4_vote_49 (by decide) (fun c => absurd c (by decide)) (fun _ => ?_)
        refine s_aloadn dX4_vote_52 rfl rfl ?_
        refine s_getR (n := 88) dX4_vote_53 rfl hW4.mm (fun _ _ _ => rfl) (hW4.rr 27 (by decide)).1 ?_
        refine s_bipush (v := 40) dX4_vote_56 (by decide) ?_
        refine s_iloadn dX4_vote_58 rfl rfl ?_
        refine s_imul dX4_vote_59 ?_
        refine s_iloadn dX4_vote_60 rfl rfl ?_
        refine s_iadd dX4_vote_61 ?_
        refine s_iloadn dX4_vote_62 rfl rfl ?_
        refine s_ifeq (tgt := 70) dX4_vote_63 (by decide) (fun c_63 => ?_) (fun c_63 => ?_)
        · skip
          refine s_iconst (v := 2) dX4_vote_70 (by decide) ?_
          refine s_iast' (j := (40 * ix o + ix k)) dX4_vote_71 ((hW4.rr 27 (by decide)).2.1) (show 40 * o + k = nI (40 * ix o + ix k) by rw [← vix, inr_ix (isO hco hno c_13), inr_ix (isC hcl hn c_5)]) (by rw [(hW4.rr 27 (by decide)).2.2]; exact (show 40 * ix o + ix k < 480 by have h1 := inr_lt (isO hco hno c_13) (Nat.le_trans hno (by decide)); have h2 := inr_lt (isC hcl hn c_5) hn; omega)) (by rw [(hW4.rr 27 (by decide)).2.2]; decide) ?_
          have hW5 := hW4.pai (f := 27) (by decide) (k := (40 * ix o + ix k)) (v := 2)
          have hF5 := hF4.uI (a := (w.ar 27)) (k := (40 * ix o + ix k)) (v := 2) (kd := 6) ((hW4.rr 27 (by decide)).2.1) (by decide)
          exact s_retv dX4_vote_72 rfl (NV.of (F := f_X4_vote n no c k o z) (by unfold f_X4_vote; rw [if_neg c_5, if_neg c_13, if_neg c_38, if_pos c_63]) hW5 hF5)
        · skip
          refine s_iconst (v := 1) dX4_vote_66 (by decide) ?_
          refine s_goto (tgt := 71) dX4_vote_67 (by decide) ?_
          refine s_iast' (j := (40 * ix o + ix k)) dX4_vote_71 ((hW4.rr 27 (by decide)).2.1) (show 40 * o + k = nI (40 * ix o + ix k) by rw [← vix, inr_ix (isO hco hno c_13), inr_ix (isC hcl hn c_5)]) (by rw [(hW4.rr 27 (by decide)).2.2]; exact (show 40 * ix o + ix k < 480 by have h1 := inr_lt (isO hco hno c_13) (Nat.le_trans hno (by decide)); have h2 := inr_lt (isC hcl hn c_5) hn; omega)) (by rw [(hW4.rr 27 (by decide)).2.2]; decide) ?_
          have hW6 := hW4.pai (f := 27) (by decide) (k := (40 * ix o + ix k)) (v := 1)
          have hF6 := hF4.uI (a := (w.ar 27)) (k := (40 * ix o + ix k)) (v := 1) (kd := 6) ((hW4.rr 27 (by decide)).2.1) (by decide)
          exact s_retv dX4_vote_72 rfl (NV.of (F := f_X4_vote n no c k o z) (by unfold f_X4_vote; rw [if_neg c_5, if_neg c_13, if_neg c_38, if_neg c_63]) hW6 hF6)
def f_X4_seize (n : Nat) (nt : Nat) (c : MC) (k g : Int32) : Int64 × MC := if (f_X4_isClaim c k) = 0 then (0, (c.pti 0 1)) else (if (f_X4_isIn g 0 ((c.ti 31) - 1)) = 0 then (0, (c.pti 0 1)) else (if (c.ai 16 (ix k)) = 0 then (if (c.ai 20 (ix k)) = 2 then (if (c.ai 33 (ix g)) = 0 then (if (c.aj 17 (ix k)) ≤ (((c.ai 32 (ix g)) : Int32).toInt64) then (if (c.aj 10 (ix k)) ≤ ((((c.ai 32 (ix g)) : Int32).toInt64) - (c.aj 17 (ix k))) then (if (f_X4_owed ((((((c.pti 0 0).pai 33 (ix g) 1).paj 17 (ix k) ((c.aj 17 (ix k)) - (c.aj 17 (ix k)))).paj 10 (ix k) ((c.aj 10 (ix k)) - (c.aj 10 (ix k)))).paj 19 (ix k) ((c.aj 19 (ix k)) + ((c.aj 17 (ix k)) + (c.aj 10 (ix k))))).ptj 2 ((c.tj 2) + (((((c.ai 32 (ix g)) : Int32).toInt64) - (c.aj 17 (ix k))) - (c.aj 10 (ix k))))) (ix k)) = 0 then ((c.aj 17 (ix k)) + (c.aj 10 (ix k)), (f_X4_ends ((((((c.pti 0 0).pai 33 (ix g) 1).paj 17 (ix k) ((c.aj 17 (ix k)) - (c.aj 17 (ix k)))).paj 10 (ix k) ((c.aj 10 (ix k)) - (c.aj 10 (ix k)))).paj 19 (ix k) ((c.aj 19 (ix k)) + ((c.aj 17 (ix k)) + (c.aj 10 (ix k))))).ptj 2 ((c.tj 2) + (((((c.ai 32 (ix g)) : Int32).toInt64) - (c.aj 17 (ix k))) - (c.aj 10 (ix k))))) (ix k))) else ((c.aj 17 (ix k)) + (c.aj 10 (ix k)), ((((((c.pti 0 0).pai 33 (ix g) 1).paj 17 (ix k) ((c.aj 17 (ix k)) - (c.aj 17 (ix k)))).paj 10 (ix k) ((c.aj 10 (ix k)) - (c.aj 10 (ix k)))).paj 19 (ix k) ((c.aj 19 (ix k)) + ((c.aj 17 (ix k)) + (c.aj 10 (ix k))))).ptj 2 ((c.tj 2) + (((((c.ai 32 (ix g)) : Int32).toInt64) - (c.aj 17 (ix k))) - (c.aj 10 (ix k))))))) else (if (f_X4_owed ((((((c.pti 0 0).pai 33 (ix g) 1).paj 17 (ix k) ((c.aj 17 (ix k)) - (c.aj 17 (ix k)))).paj 10 (ix k) ((c.aj 10 (ix k)) - ((((c.ai 32 (ix g)) : Int32).toInt64) - (c.aj 17 (ix k))))).paj 19 (ix k) ((c.aj 19 (ix k)) + ((c.aj 17 (ix k)) + ((((c.ai 32 (ix g)) : Int32).toInt64) - (c.aj 17 (ix k)))))).ptj 2 ((c.tj 2) + (((((c.ai 32 (ix g)) : Int32).toInt64) - (c.aj 17 (ix k))) - ((((c.ai 32 (ix g)) : Int32).toInt64) - (c.aj 17 (ix k)))))) (ix k)) = 0 then ((c.aj 17 (ix k)) + ((((c.ai 32 (ix g)) : Int32).toInt64) - (c.aj 17 (ix k))), (f_X4_ends ((((((c.pti 0 0).pai 33 (ix g) 1).paj 17 (ix k) ((c.aj 17 (ix k)) - (c.aj 17 (ix k)))).paj 10 (ix k) ((c.aj 10 (ix k)) - ((((c.ai 32 (ix g)) : Int32).toInt64) - (c.aj 17 (ix k))))).paj 19 (ix k) ((c.aj 19 (ix k)) + ((c.aj 17 (ix k)) + ((((c.ai 32 (ix g)) : Int32).toInt64) - (c.aj 17 (ix k)))))).ptj 2 ((c.tj 2) + (((((c.ai 32 (ix g)) : Int32).toInt64) - (c.aj 17 (ix k))) - ((((c.ai 32 (ix g)) : Int32).toInt64) - (c.aj 17 (ix k)))))) (ix k))) else ((c.aj 17 (ix k)) + ((((c.ai 32 (ix g)) : Int32).toInt64) - (c.aj 17 (ix k))), ((((((c.pti 0 0).pai 33 (ix g) 1).paj 17 (ix k) ((c.aj 17 (ix k)) - (c.aj 17 (ix k)))).paj 10 (ix k) ((c.aj 10 (ix k)) - ((((c.ai 32 (ix g)) : Int32).toInt64) - (c.aj 17 (ix k))))).paj 19 (ix k) ((c.aj 19 (ix k)) + ((c.aj 17 (ix k)) + ((((c.ai 32 (ix g)) : Int32).toInt64) - (c.aj 17 (ix k)))))).ptj 2 ((c.tj 2) + (((((c.ai 32 (ix g)) : Int32).toInt64) - (c.aj 17 (ix k))) - ((((c.ai 32 (ix g)) : Int32).toInt64) - (c.aj 17 (ix k))))))))) else (if (c.aj 10 (ix k)) ≤ ((((c.ai 32 (ix g)) : Int32).toInt64) - (((c.ai 32 (ix g)) : Int32).toInt64)) then (if (f_X4_owed ((((((c.pti 0 0).pai 33 (ix g) 1).paj 17 (ix k) ((c.aj 17 (ix k)) - (((c.ai 32 (ix g)) : Int32).toInt64))).paj 10 (ix k) ((c.aj 10 (ix k)) - (c.aj 10 (ix k)))).paj 19 (ix k) ((c.aj 19 (ix k)) + ((((c.ai 32 (ix g)) : Int32).toInt64) + (c.aj 10 (ix k))))).ptj 2 ((c.tj 2) + (((((c.ai 32 (ix g)) : Int32).toInt64) - (((c.ai 32 (ix g)) : Int32).toInt64)) - (c.aj 10 (ix k))))) (ix k)) = 0 then ((((c.ai 32 (ix g)) : Int32).toInt64) + (c.aj 10 (ix k)), (f_X4_ends ((((((c.pti 0 0).pai 33 (ix g) 1).paj 17 (ix k) ((c.aj 17 (ix k)) - (((c.ai 32 (ix g)) : Int32).toInt64))).paj 10 (ix k) ((c.aj 10 (ix k)) - (c.aj 10 (ix k)))).paj 19 (ix k) ((c.aj 19 (ix k)) + ((((c.ai 32 (ix g)) : Int32).toInt64) + (c.aj 10 (ix k))))).ptj 2 ((c.tj 2) + (((((c.ai 32 (ix g)) : Int32).toInt64) - (((c.ai 32 (ix g)) : Int32).toInt64)) - (c.aj 10 (ix k))))) (ix k))) else ((((c.ai 32 (ix g)) : Int32).toInt64) + (c.aj 10 (ix k)), ((((((c.pti 0 0).pai 33 (ix g) 1).paj 17 (ix k) ((c.aj 17 (ix k)) - (((c.ai 32 (ix g)) : Int32).toInt64))).paj 10 (ix k) ((c.aj 10 (ix k)) - (c.aj 10 (ix k)))).paj 19 (ix k) ((c.aj 19 (ix k)) + ((((c.ai 32 (ix g)) : Int32).toInt64) + (c.aj 10 (ix k))))).ptj 2 ((c.tj 2) + (((((c.ai 32 (ix g)) : Int32).toInt64) - (((c.ai 32 (ix g)) : Int32).toInt64)) - (c.aj 10 (ix k))))))) else (if (f_X4_owed ((((((c.pti 0 0).pai 33 (ix g) 1).paj 17 (ix k) ((c.aj 17 (ix k)) - (((c.ai 32 (ix g)) : Int32).toInt64))).paj 10 (ix k) ((c.aj 10 (ix k)) - ((((c.ai 32 (ix g)) : Int32).toInt64) - (((c.ai 32 (ix g)) : Int32).toInt64)))).paj 19 (ix k) ((c.aj 19 (ix k)) + ((((c.ai 32 (ix g)) : Int32).toInt64) + ((((c.ai 32 (ix g)) : Int32).toInt64) - (((c.ai 32 (ix g)) : Int32).toInt64))))).ptj 2 ((c.tj 2) + (((((c.ai 32 (ix g)) : Int32).toInt64) - (((c.ai 32 (ix g)) : Int32).toInt64)) - ((((c.ai 32 (ix g)) : Int32).toInt64) - (((c.ai 32 (ix g)) : Int32).toInt64))))) (ix k)) = 0 then ((((c.ai 32 (ix g)) : Int32).toInt64) + ((((c.ai 32 (ix g)) : Int32).toInt64) - (((c.ai 32 (ix g)) : Int32).toInt64)), (f_X4_ends ((((((c.pti 0 0).pai 33 (ix g) 1).paj 17 (ix k) ((c.aj 17 (ix k)) - (((c.ai 32 (ix g)) : Int32).toInt64))).paj 10 (ix k) ((c.aj 10 (ix k)) - ((((c.ai 32 (ix g)) : Int32).toInt64) - (((c.ai 32 (ix g)) : Int32).toInt64)))).paj 19 (ix k) ((c.aj 19 (ix k)) + ((((c.ai 32 (ix g)) : Int32).toInt64) + ((((c.ai 32 (ix g)) : Int32).toInt64) - (((c.ai 32 (ix g)) : Int32).toInt64))))).ptj 2 ((c.tj 2) + (((((c.ai 32 (ix g)) : Int32).toInt64) - (((c.ai 32 (ix g)) : Int32).toInt64)) - ((((c.ai 32 (ix g)) : Int32).toInt64) - (((c.ai 32 (ix g)) : Int32).toInt64))))) (ix k))) else ((((c.ai 32 (ix g)) : Int32).toInt64) + ((((c.ai 32 (ix g)) : Int32).toInt64) - (((c.ai 32 (ix g)) : Int32).toInt64)), ((((((c.pti 0 0).pai 33 (ix g) 1).paj 17 (ix k) ((c.aj 17 (ix k)) - (((c.ai 32 (ix g)) : Int32).toInt64))).paj 10 (ix k) ((c.aj 10 (ix k)) - ((((c.ai 32 (ix g)) : Int32).toInt64) - (((c.ai 32 (ix g)) : Int32).toInt64)))).paj 19 (ix k) ((c.aj 19 (ix k)) + ((((c.ai 32 (ix g)) : Int32).toInt64) + ((((c.ai 32 (ix g)) : Int32).toInt64) - (((c.ai 32 (ix g)) : Int32).toInt64))))).ptj 2 ((c.tj 2) + (((((c.ai 32 (ix g)) : Int32).toInt64) - (((c.ai 32 (ix g)) : Int32).toInt64)) - ((((c.ai 32 (ix g)) : Int32).toInt64) - (((c.ai 32 (ix g)) : Int32).toInt64))))))))) else (0, (c.pti 0 2))) else (0, (c.pti 0 2))) else (0, (c.pti 0 2))))
set_option maxHeartbeats 4000000 in
theorem m_X4_seize {tm : Nat × Nat} {S : Sto} {w : MAd} {c : MC} {n : Nat} {nt : Nat} {k g : Int32} (hW : MW S w c) (hcl : c.ti 7 = nI n) (hn : n ≤ 40) (hct : c.ti 31 = nI nt) (hnt : nt ≤ 10)  : Ev tm M_X4_seize [.ref w.mm, .int k, .int g] S (NJ w S (f_X4_seize n nt c k g)) := by
  have hF : FrM S S := FrM.rf
  refine ev_in ok_X4_seize (Nat.le_of_ble_eq_true rfl) ?_
  refine s_aloadn dX4_seize_0 rfl rfl ?_
  refine s_iloadn dX4_seize_1 rfl rfl ?_
  refine s_cv1R (n := 51) dX4_seize_2 rfl (kv hW.mm (by decide) rfl) rfl (by decide) (by decide) (by decide) (by decide) (Nat.le_of_ble_eq_true rfl) (m_X4_isClaim hW) ?_
  refine s_ifeq (tgt := 26) dX4_seize_5 (by decide) (fun c_5 => ?_) (fun c_5 => ?_)
  · skip
    refine s_iconst (v := 0) dX4_seize_26 (by decide) ?_
    refine s_istoren dX4_seize_27 rfl (by decide) ?_
    refine s_aloadn dX4_seize_28 rfl rfl ?_
    refine s_iloadn dX4_seize_29 rfl rfl ?_
    refine s_ifne (tgt := 37) dX4_seize_30 (by decide) (fun c => absurd c (by decide)) (fun _ => ?_)
    refine s_iconst (v := 1) dX4_seize_33 (by decide) ?_
    refine s_goto (tgt := 70) dX4_seize_34 (by decide) ?_
    refine s_cv1G (n := 49) dX4_seize_70 rfl (kv hW.mm (by decide) rfl) rfl (by decide) (by decide) (by decide) (by decide) (Nat.le_of_ble_eq_true rfl) (m_holdsP (p := 1) hW (by decide)) (fun r1 S1 hr1 => ?_) (fun x S2 hr => by obtain ⟨e, -⟩ := hr; cases e)
    obtain ⟨e1, hW1, hG1⟩ := hr1
    cases e1
    have hF1 := hF.tr hG1
    refine s_ifne (tgt := 78) dX4_seize_73 (by decide) (fun c => absurd c (by decide)) (fun _ => ?_)
    refine s_lconst (v := 0) dX4_seize_76 (by decide) ?_
    exact s_retl dX4_seize_77 rfl (NJ.of (F := f_X4_seize n nt c k g) (x := 0) (by unfold f_X4_seize; rw [if_pos c_5]) hW1 hF1)
  · skip
    refine s_iloadn dX4_seize_8 rfl rfl ?_
    refine s_iconst (v := 0) dX4_seize_9 (by decide) ?_
    refine s_aloadn dX4_seize_10 rfl rfl ?_
    refine s_get (v := .int (c.ti 31)) (n := 92) dX4_seize_11 rfl hW.mm (congrArg Value.int (congrFun hW.ti 31)) ?_
    refine s_iconst (v := 1) dX4_seize_14 (by decide) ?_
    refine s_isub dX4_seize_15 ?_
    refine s_cs3R (n := 23) dX4_seize_16 rfl rfl (by decide) (by decide) (by decide) (by decide) (Nat.le_of_ble_eq_true rfl) (m_X4_isIn) ?_
    refine s_ifeq (tgt := 26) dX4_seize_19 (by decide) (fun c_19 => ?_) (fun c_19 => ?_)
    · skip
      refine s_iconst (v := 0) dX4_seize_26 (by decide) ?_
      refine s_istoren dX4_seize_27 rfl (by decide) ?_
      refine s_aloadn dX4_seize_28 rfl rfl ?_
      refine s_iloadn dX4_seize_29 rfl rfl ?_
      refine s_ifne (tgt := 37) dX4_seize_30 (by decide) (fun c => absurd c (by decide)) (fun _ => ?_)
      refine s_iconst (v := 1) dX4_seize_33 (by decide) ?_
      refine s_goto (tgt := 70) dX4_seize_34 (by decide) ?_
      refine s_cv1G (n := 49) dX4_seize_70 rfl (kv hW.mm (by decide) rfl) rfl (by decide) (by decide) (by decide) (by decide) (Nat.le_of_ble_eq_true rfl) (m_holdsP (p := 1) hW (by decide)) (fun r2 S2 hr2 => ?_) (fun x S2 hr => by obtain ⟨e, -⟩ := hr; cases e)
      obtain ⟨e2, hW2, hG2⟩ := hr2
      cases e2
      have hF2 := hF.tr hG2
      refine s_ifne (tgt := 78) dX4_seize_73 (by decide) (fun c => absurd c (by decide)) (fun _ => ?_)
      refine s_lconst (v := 0) dX4_seize_76 (by decide) ?_
      exact s_retl dX4_seize_77 rfl (NJ.of (F := f_X4_seize n nt c k g) (x := 0) (by unfold f_X4_seize; rw [if_neg c_5, if_pos c_19]) hW2 hF2)
    · skip
      refine s_iconst (v := 1) dX4_seize_22 (by decide) ?_
      refine s_goto (tgt := 27) dX4_seize_23 (by decide) ?_
      refine s_istoren dX4_seize_27 rfl (by decide) ?_
      refine s_aloadn dX4_seize_28 rfl rfl ?_
      refine s_iloadn dX4_seize_29 rfl rfl ?_
      refine s_ifne (tgt := 37) dX4_seize_30 (by decide) (fun _ => ?_) (fun c => absurd c (by decide))
      refine s_aloadn dX4_seize_37 rfl rfl ?_
      refine s_getR (n := 77) dX4_seize_38 rfl hW.mm (fun _ _ _ => rfl) (hW.rr 16 (by decide)).1 ?_
      refine s_iloadn dX4_seize_41 rfl rfl ?_
      refine s_iald' (j := (ix k)) dX4_seize_42 ((hW.rr 16 (by decide)).2.1) (inr_ix (isC hcl hn c_5)).symm (by rw [(hW.rr 16 (by decide)).2.2]; exact (Nat.lt_of_lt_of_le (inr_lt (isC hcl hn c_5) hn) hn)) (by rw [(hW.rr 16 (by decide)).2.2]; decide) ?_
      rw [hW.ai 16 (by decide)]
      refine s_ifne (tgt := 69) dX4_seize_43 (by decide) (fun c_43 => ?_) (fun c_43 => ?_)
      · skip
        refine s_iconst (v := 2) dX4_seize_69 (by decide) ?_
        refine s_cv1G (n := 49) dX4_seize_70 rfl (kv hW.mm (by decide) rfl) rfl (by decide) (by decide) (by decide) (by decide) (Nat.le_of_ble_eq_true rfl) (m_holdsP (p := 2) hW (by decide)) (fun r3 S3 hr3 => ?_) (fun x S2 hr => by obtain ⟨e, -⟩ := hr; cases e)
        obtain ⟨e3, hW3, hG3⟩ := hr3
        cases e3
        have hF3 := hF.tr hG3
        refine s_ifne (tgt := 78) dX4_seize_73 (by decide) (fun c => absurd c (by decide)) (fun _ => ?_)
        refine s_lconst (v := 0) dX4_seize_76 (by decide) ?_
        exact s_retl dX4_seize_77 rfl (NJ.of (F := f_X4_seize n nt c k g) (x := 0) (by unfold f_X4_seize; rw [if_neg c_5, if_neg c_19, if_neg c_43]) hW3 hF3)
      · skip
        refine s_aloadn dX4_seize_46 rfl rfl ?_
        refine s_getR (n := 81) dX4_seize_47 rfl hW.mm (fun _ _ _ => rfl) (hW.rr 20 (by decide)).1 ?_
        refine s_iloadn dX4_seize_50 rfl rfl ?_
        refine s_iald' (j := (ix k)) dX4_seize_51 ((hW.rr 20 (by decide)).2.1) (inr_ix (isC hcl hn c_5)).symm (by rw [(hW.rr 20 (by decide)).2.2]; exact (Nat.lt_of_lt_of_le (inr_lt (isC hcl hn c_5) hn) hn)) (by rw [(hW.rr 20 (by decide)).2.2]; decide) ?_
        rw [hW.ai 20 (by decide)]
        refine s_iconst (v := 2) dX4_seize_52 (by decide) ?_
        refine s_icne (tgt := 69) dX4_seize_53 (by decide) (fun c_53 => ?_) (fun c_53 => ?_)
        · skip
          refine s_iconst (v := 2) dX4_seize_69 (by decide) ?_
          refine s_cv1G (n := 49) dX4_seize_70 rfl (kv hW.mm (by decide) rfl) rfl (by decide) (by decide) (by decide) (by decide) (Nat.le_of_ble_eq_true rfl) (m_holdsP (p := 2) hW (by decide)) (fun r4 S4 hr4 => ?_) (fun x S2 hr => by obtain ⟨e, -⟩ := hr; cases e)
          obtain ⟨e4, hW4, hG4⟩ := hr4
          cases e4
          have hF4 := hF.tr hG4
          refine s_ifne (tgt := 78) dX4_seize_73 (by decide) (fun c => absurd c (by decide)) (fun _ => ?_)
          refine s_lconst (v := 0) dX4_seize_76 (by decide) ?_
          exact s_retl dX4_seize_77 rfl (NJ.of (F := f_X4_seize n nt c k g) (x := 0) (by unfold f_X4_seize; rw [if_neg c_5, if_neg c_19, if_pos c_43, if_neg c_53]) hW4 hF4)
        · skip
          refine s_aloadn dX4_seize_56 rfl rfl ?_
          refine s_getR (n := 94) dX4_seize_57 rfl hW.mm (fun _ _ _ => rfl) (hW.rr 33 (by decide)).1 ?_
          refine s_iloadn dX4_seize_60 rfl rfl ?_
          refine s_zald' (j := (ix g)) dX4_seize_61 ((hW.rr 33 (by decide)).2.1) (inr_ix (isT hct hnt c_19)).symm (by rw [(hW.rr 33 (by decide)).2.2]; exact (Nat.lt_of_lt_of_le (inr_lt (isT hct hnt c_19) (Nat.le_trans hnt (by decide))) hnt)) (by rw [(hW.rr 33 (by decide)).2.2]; decide) ?_
          rw [hW.ai 33 (by decide)]
          refine s_ifne (tgt := 69) dX4_seize_62 (by decide) (fun c_62 => ?_) (fun c_62 => ?_)
          · skip
            refine s_iconst (v := 2) dX4_seize_69 (by decide) ?_
            refine s_cv1G (n := 49) dX4_seize_70 rfl (kv hW.mm (by decide) rfl) rfl (by decide) (by decide) (by decide) (by decide) (Nat.le_of_ble_eq_true rfl) (m_holdsP (p := 2) hW (by decide)) (fun r5 S5 hr5 => ?_) (fun x S2 hr => by obtain ⟨e, -⟩ := hr; cases e)
            obtain ⟨e5, hW5, hG5⟩ := hr5
            cases e5
            have hF5 := hF.tr hG5
            refine s_ifne (tgt := 78) dX4_seize_73 (by decide) (fun c => absurd c (by decide)) (fun _ => ?_)
            refine s_lconst (v := 0) dX4_seize_76 (by decide) ?_
            exact s_retl dX4_seize_77 rfl (NJ.of (F := f_X4_seize n nt c k g) (x := 0) (by unfold f_X4_seize; rw [if_neg c_5, if_neg c_19, if_pos c_43, if_pos c_53, if_neg c_62]) hW5 hF5)
          · skip
            refine s_iconst (v := 0) dX4_seize_65 (by decide) ?_
            refine s_goto (tgt := 70) dX4_seize_66 (by decide) ?_
            refine s_cv1G (n := 49) dX4_seize_70 rfl (kv hW.mm (by decide) rfl) rfl (by decide) (by decide) (by decide) (by decide) (Nat.le_of_ble_eq_true rfl) (m_holds0 hW) (fun r6 S6 hr6 => ?_) (fun x S2 hr => by obtain ⟨e, -⟩ := hr; cases e)
            obtain ⟨e6, hW6, hG6⟩ := hr6
            cases e6
            have hF6 := hF.tr hG6
            refine s_ifne (tgt := 78) dX4_seize_73 (by decide) (fun _ => ?_) (fun c => absurd c (by decide))
            refine s_aloadn dX4_seize_78 rfl rfl ?_
            refine s_getR (n := 94) dX4_seize_79 rfl hW6.mm (fun _ _ _ => rfl) (hW6.rr 33 (by decide)).1 ?_
            refine s_iloadn dX4_seize_82 rfl rfl ?_
            refine s_iconst (v := 1) dX4_seize_83 (by decide) ?_
            refine s_zast' (j := (ix g)) dX4_seize_84 ((hW6.rr 33 (by decide)).2.1) (inr_ix (isT hct hnt c_19)).symm (by rw [(hW6.rr 33 (by decide)).2.2]; exact (Nat.lt_of_lt_of_le (inr_lt (isT hct hnt c_19) (Nat.le_trans hnt (by decide))) hnt)) (by rw [(hW6.rr 33 (by decide)).2.2]; decide) (by decide) ?_
            have hW7 := hW6.pai (f := 33) (by decide) (k := (ix g)) (v := 1)
            have hF7 := hF6.uI (a := (w.ar 33)) (k := (ix g)) (v := 1) (kd := 8) ((hW6.rr 33 (by decide)).2.1) (by decide)
            refine s_aloadn dX4_seize_85 rfl rfl ?_
            refine s_getR (n := 93) dX4_seize_86 rfl hW7.mm (fun _ _ _ => rfl) (hW7.rr 32 (by decide)).1 ?_
            refine s_iloadn dX4_seize_89 rfl rfl ?_
            refine s_iald' (j := (ix g)) dX4_seize_90 ((hW7.rr 32 (by decide)).2.1) (inr_ix (isT hct hnt c_19)).symm (by rw [(hW7.rr 32 (by decide)).2.2]; exact (Nat.lt_of_lt_of_le (inr_lt (isT hct hnt c_19) (Nat.le_trans hnt (by decide))) hnt)) (by rw [(hW7.rr 32 (by decide)).2.2]; decide) ?_
            rw [hW7.ai 32 (by decide)]
            rw [show ((c.pti 0 0).pai 33 (ix g) 1).ai 32 (ix g) = (c.ai 32 (ix g)) from (rfl)]
            refine s_i2l dX4_seize_91 ?_
            refine s_aloadn dX4_seize_92 rfl rfl ?_
            refine s_getR (n := 78) dX4_seize_93 rfl hW7.mm (fun _ _ _ => rfl) (hW7.rr 17 (by decide)).1 ?_
            refine s_iloadn dX4_seize_96 rfl rfl ?_
            refine s_lald' (j := (ix k)) dX4_seize_97 (Or.inr (Or.inl (hW7.rr 17 (by decide)).2.1)) (inr_ix (isC hcl hn c_5)).symm (by rw [(hW7.rr 17 (by decide)).2.2]; exact (Nat.lt_of_lt_of_le (inr_lt (isC hcl hn c_5) hn) hn)) (by rw [(hW7.rr 17 (by decide)).2.2]; decide) ?_
            rw [hW7.aj 17 (by decide)]
            refine s_lcge (tgt := 112) dX4_seize_98 dX4_seize_99 (by decide) (fun c_98 => ?_) (fun c_98 => ?_)
            · skip
              refine s_aloadn dX4_seize_112 rfl rfl ?_
              refine s_getR (n := 78) dX4_seize_113 rfl hW7.mm (fun _ _ _ => rfl) (hW7.rr 17 (by decide)).1 ?_
              refine s_iloadn dX4_seize_116 rfl rfl ?_
              refine s_lald' (j := (ix k)) dX4_seize_117 (Or.inr (Or.inl (hW7.rr 17 (by decide)).2.1)) (inr_ix (isC hcl hn c_5)).symm (by rw [(hW7.rr 17 (by decide)).2.2]; exact (Nat.lt_of_lt_of_le (inr_lt (isC hcl hn c_5) hn) hn)) (by rw [(hW7.rr 17 (by decide)).2.2]; decide) ?_
              rw [hW7.aj 17 (by decide)]
              refine s_lstore dX4_seize_118 (by decide) ?_
              refine s_aloadn dX4_seize_120 rfl rfl ?_
              refine s_getR (n := 93) dX4_seize_121 rfl hW7.mm (fun _ _ _ => rfl) (hW7.rr 32 (by decide)).1 ?_
              refine s_iloadn dX4_seize_124 rfl rfl ?_
              refine s_iald' (j := (ix g)) dX4_seize_125 ((hW7.rr 32 (by decide)).2.1) (inr_ix (isT hct hnt c_19)).symm (by rw [(hW7.rr 32 (by decide)).2.2]; exact (Nat.lt_of_lt_of_le (inr_lt (isT hct hnt c_19) (Nat.le_trans hnt (by decide))) hnt)) (by rw [(hW7.rr 32 (by decide)).2.2]; decide) ?_
              rw [hW7.ai 32 (by decide)]
              rw [show ((c.pti 0 0).pai 33 (ix g) 1).ai 32 (ix g) = (c.ai 32 (ix g)) from (rfl)]
              refine s_i2l dX4_seize_126 ?_
              refine s_lload dX4_seize_127 rfl ?_
              refine s_lsub dX4_seize_129 ?_
              refine s_lstore dX4_seize_130 (by decide) ?_
              refine s_lload dX4_seize_132 rfl ?_
              refine s_aloadn dX4_seize_134 rfl rfl ?_
              refine s_getR (n := 71) dX4_seize_135 rfl hW7.mm (fun _ _ _ => rfl) (hW7.rr 10 (by decide)).1 ?_
              refine s_iloadn dX4_seize_138 rfl rfl ?_
              refine s_lald' (j := (ix k)) dX4_seize_139 (Or.inr (Or.inl (hW7.rr 10 (by decide)).2.1)) (inr_ix (isC hcl hn c_5)).symm (by rw [(hW7.rr 10 (by decide)).2.2]; exact (Nat.lt_of_lt_of_le (inr_lt (isC hcl hn c_5) hn) hn)) (by rw [(hW7.rr 10 (by decide)).2.2]; decide) ?_
              rw [hW7.aj 10 (by decide)]
              refine s_lcge (tgt := 149) dX4_seize_140 dX4_seize_141 (by decide) (fun c_140 => ?_) (fun c_140 => ?_)
              · skip
                refine s_aloadn dX4_seize_149 rfl rfl ?_
                refine s_getR (n := 71) dX4_seize_150 rfl hW7.mm (fun _ _ _ => rfl) (hW7.rr 10 (by decide)).1 ?_
                refine s_iloadn dX4_seize_153 rfl rfl ?_
                refine s_lald' (j := (ix k)) dX4_seize_154 (Or.inr (Or.inl (hW7.rr 10 (by decide)).2.1)) (inr_ix (isC hcl hn c_5)).symm (by rw [(hW7.rr 10 (by decide)).2.2]; exact (Nat.lt_of_lt_of_le (inr_lt (isC hcl hn c_5) hn) hn)) (by rw [(hW7.rr 10 (by decide)).2.2]; decide) ?_
                rw [hW7.aj 10 (by decide)]
                refine s_lstore dX4_seize_155 (by decide) ?_
                refine s_aloadn dX4_seize_157 rfl rfl ?_
                refine s_getR (n := 78) dX4_seize_158 rfl hW7.mm (fun _ _ _ => rfl) (hW7.rr 17 (by decide)).1 ?_
                refine s_iloadn dX4_seize_161 rfl rfl ?_
                refine s_dup2 dX4_seize_162 rfl rfl ?_
                refine s_lald' (j := (ix k)) dX4_seize_163 (Or.inr (Or.inl (hW7.rr 17 (by decide)).2.1)) (inr_ix (isC hcl hn c_5)).symm (by rw [(hW7.rr 17 (by decide)).2.2]; exact (Nat.lt_of_lt_of_le (inr_lt (isC hcl hn c_5) hn) hn)) (by rw [(hW7.rr 17 (by decide)).2.2]; decide) ?_
                rw [hW7.aj 17 (by decide)]
                refine s_lload dX4_seize_164 rfl ?_
                refine s_lsub dX4_seize_166 ?_
                refine s_last' (j := (ix k)) dX4_seize_167 (Or.inr (Or.inl (hW7.rr 17 (by decide)).2.1)) (inr_ix (isC hcl hn c_5)).symm (by rw [(hW7.rr 17 (by decide)).2.2]; exact (Nat.lt_of_lt_of_le (inr_lt (isC hcl hn c_5) hn) hn)) (by rw [(hW7.rr 17 (by decide)).2.2]; decide) ?_
                have hW8 := hW7.paj (f := 17) (by decide) (k := (ix k)) (v := (c.aj 17 (ix k)) - (c.aj 17 (ix k)))
                have hF8 := hF7.uJ (a := (w.ar 17)) (k := (ix k)) (v := (c.aj 17 (ix k)) - (c.aj 17 (ix k))) (kd := 10) ((hW7.rr 17 (by decide)).2.1) (by decide)
                refine s_aloadn dX4_seize_168 rfl rfl ?_
                refine s_getR (n := 71) dX4_seize_169 rfl hW8.mm (fun _ _ _ => rfl) (hW8.rr 10 (by decide)).1 ?_
                refine s_iloadn dX4_seize_172 rfl rfl ?_
                refine s_dup2 dX4_seize_173 rfl rfl ?_
                refine s_lald' (j := (ix k)) dX4_seize_174 (Or.inr (Or.inl (hW8.rr 10 (by decide)).2.1)) (inr_ix (isC hcl hn c_5)).symm (by rw [(hW8.rr 10 (by decide)).2.2]; exact (Nat.lt_of_lt_of_le (inr_lt (isC hcl hn c_5) hn) hn)) (by rw [(hW8.rr 10 (by decide)).2.2]; decide) ?_
                rw [hW8.aj 10 (by decide)]
                rw [show (((c.pti 0 0).pai 33 (ix g) 1).paj 17 (ix k) ((c.aj 17 (ix k)) - (c.aj 17 (ix k)))).aj 10 (ix k) = (c.aj 10 (ix k)) from (rfl)]
                refine s_lload dX4_seize_175 rfl ?_
                refine s_lsub dX4_seize_177 ?_
                refine s_last' (j := (ix k)) dX4_seize_178 (Or.inr (Or.inl (hW8.rr 10 (by decide)).2.1)) (inr_ix (isC hcl hn c_5)).symm (by rw [(hW8.rr 10 (by decide)).2.2]; exact (Nat.lt_of_lt_of_le (inr_lt (isC hcl hn c_5) hn) hn)) (by rw [(hW8.rr 10 (by decide)).2.2]; decide) ?_
                have hW9 := hW8.paj (f := 10) (by decide) (k := (ix k)) (v := (c.aj 10 (ix k)) - (c.aj 10 (ix k)))
                have hF9 := hF8.uJ (a := (w.ar 10)) (k := (ix k)) (v := (c.aj 10 (ix k)) - (c.aj 10 (ix k))) (kd := 10) ((hW8.rr 10 (by decide)).2.1) (by decide)
                refine s_aloadn dX4_seize_179 rfl rfl ?_
                refine s_getR (n := 80) dX4_seize_180 rfl hW9.mm (fun _ _ _ => rfl) (hW9.rr 19 (by decide)).1 ?_
                refine s_iloadn dX4_seize_183 rfl rfl ?_
                refine s_dup2 dX4_seize_184 rfl rfl ?_
                refine s_lald' (j := (ix k)) dX4_seize_185 (Or.inr (Or.inl (hW9.rr 19 (by decide)).2.1)) (inr_ix (isC hcl hn c_5)).symm (by rw [(hW9.rr 19 (by decide)).2.2]; exact (Nat.lt_of_lt_of_le (inr_lt (isC hcl hn c_5) hn) hn)) (by rw [(hW9.rr 19 (by decide)).2.2]; decide) ?_
                rw [hW9.aj 19 (by decide)]
                rw [show ((((c.pti 0 0).pai 33 (ix g) 1).paj 17 (ix k) ((c.aj 17 (ix k)) - (c.aj 17 (ix k)))).paj 10 (ix k) ((c.aj 10 (ix k)) - (c.aj 10 (ix k)))).aj 19 (ix k) = (c.aj 19 (ix k)) from (rfl)]
                refine s_lload dX4_seize_186 rfl ?_
                refine s_lload dX4_seize_188 rfl ?_
                refine s_ladd dX4_seize_190 ?_
                refine s_ladd dX4_seize_191 ?_
                refine s_last' (j := (ix k)) dX4_seize_192 (Or.inr (Or.inl (hW9.rr 19 (by decide)).2.1)) (inr_ix (isC hcl hn c_5)).symm (by rw [(hW9.rr 19 (by decide)).2.2]; exact (Nat.lt_of_lt_of_le (inr_lt (isC hcl hn c_5) hn) hn)) (by rw [(hW9.rr 19 (by decide)).2.2]; decide) ?_
                have hW10 := hW9.paj (f := 19) (by decide) (k := (ix k)) (v := (c.aj 19 (ix k)) + ((c.aj 17 (ix k)) + (c.aj 10 (ix k))))
                have hF10 := hF9.uJ (a := (w.ar 19)) (k := (ix k)) (v := (c.aj 19 (ix k)) + ((c.aj 17 (ix k)) + (c.aj 10 (ix k)))) (kd := 10) ((hW9.rr 19 (by decide)).2.1) (by decide)
                refine s_aloadn dX4_seize_193 rfl rfl ?_
                refine s_dup dX4_seize_194 rfl ?_
                refine s_get (v := .long (c.tj 2)) (n := 63) dX4_seize_195 rfl hW10.mm (congrArg Value.long (congrFun hW10.tj 2)) ?_
                refine s_lload dX4_seize_198 rfl ?_
                refine s_lload dX4_seize_200 rfl ?_
                refine s_lsub dX4_seize_202 ?_
                refine s_ladd dX4_seize_203 ?_
                refine s_putJ (n := 63) dX4_seize_204 rfl hW10.mm (Or.inl rfl) (fun _ _ _ => rfl) rfl rfl ?_
                have hW11 := hW10.ptj (k := 2) (v := (c.tj 2) + (((((c.ai 32 (ix g)) : Int32).toInt64) - (c.aj 17 (ix k))) - (c.aj 10 (ix k))))
                have hF11 := hF10.uJ (a := w.mm) (k := 2) (v := (c.tj 2) + (((((c.ai 32 (ix g)) : Int32).toInt64) - (c.aj 17 (ix k))) - (c.aj 10 (ix k)))) (kd := 5) hW10.mm (by decide)
                refine s_aloadn dX4_seize_207 rfl rfl ?_
                refine s_iloadn dX4_seize_208 rfl rfl ?_
                refine s_cv1R (n := 52) dX4_seize_209 rfl (kv hW11.mm (by decide) rfl) rfl (by decide) (by decide) (by decide) (by decide) (Nat.le_of_ble_eq_true rfl) (by have q : Ev tm M_X4_owed [.ref w.mm, .int (nI (ix k))] (uJ (uJ (uJ (uJ (uI S6 (w.ar 33) (ix g) 1) (w.ar 17) (ix k) ((c.aj 17 (ix k)) - (c.aj 17 (ix k)))) (w.ar 10) (ix k) ((c.aj 10 (ix k)) - (c.aj 10 (ix k)))) (w.ar 19) (ix k) ((c.aj 19 (ix k)) + ((c.aj 17 (ix k)) + (c.aj 10 (ix k))))) w.mm 2 ((c.tj 2) + (((((c.ai 32 (ix g)) : Int32).toInt64) - (c.aj 17 (ix k))) - (c.aj 10 (ix k))))) _ := m_X4_owed hW11 (Nat.lt_of_lt_of_le (inr_lt (isC hcl hn c_5) hn) hn); rw [← ((inr_ix (isC hcl hn c_5)).symm)] at q; exact q) ?_
                refine s_lconst (v := 0) dX4_seize_212 (by decide) ?_
                refine s_lcne (tgt := 222) dX4_seize_213 dX4_seize_214 (by decide) (fun c_213 => ?_) (fun c_213 => ?_)
                · skip
                  refine s_lload dX4_seize_222 rfl ?_
                  refine s_lload dX4_seize_224 rfl ?_
                  refine s_ladd dX4_seize_226 ?_
                  exact s_retl dX4_seize_227 rfl (NJ.of (F := f_X4_seize n nt c k g) (x := (c.aj 17 (ix k)) + (c.aj 10 (ix k))) (by unfold f_X4_seize; rw [if_neg c_5, if_neg c_19, if_pos c_43, if_pos c_53, if_pos c_62, if_pos c_98, if_pos c_140, if_neg c_213]) hW11 hF11)
                · skip
                  refine s_aloadn dX4_seize_217 rfl rfl ?_
                  refine s_iloadn dX4_seize_218 rfl rfl ?_
                  refine s_cv1G (n := 55) dX4_seize_219 rfl (kv hW11.mm (by decide) rfl) rfl (by decide) (by decide) (by decide) (by decide) (Nat.le_of_ble_eq_true rfl) (by have q := m_X4_ends (tm := tm) hW11 (Nat.lt_of_lt_of_le (inr_lt (isC hcl hn c_5) hn) hn); rw [← ((inr_ix (isC hcl hn c_5)).symm)] at q; exact q) (fun r12 S12 hr12 => ?_) (fun x S2 hr => by obtain ⟨e, -⟩ := hr; cases e)
                  obtain ⟨e12, hW12, hG12⟩ := hr12
                  cases e12
                  have hF12 := hF11.tr hG12
                  refine s_lload dX4_seize_222 rfl ?_
                  refine s_lload dX4_seize_224 rfl ?_
                  refine s_ladd dX4_seize_226 ?_
                  exact s_retl dX4_seize_227 rfl (NJ.of (F := f_X4_seize n nt c k g) (x := (c.aj 17 (ix k)) + (c.aj 10 (ix k))) (by unfold f_X4_seize; rw [if_neg c_5, if_neg c_19, if_pos c_43, if_pos c_53, if_pos c_62, if_pos c_98, if_pos c_140, if_pos c_213]) hW12 hF12)
              · skip
                refine s_lload dX4_seize_144 rfl ?_
                refine s_goto (tgt := 155) dX4_seize_146 (by decide) ?_
                refine s_lstore dX4_seize_155 (by decide) ?_
                refine s_aloadn dX4_seize_157 rfl rfl ?_
                refine s_getR (n := 78) dX4_seize_158 rfl hW7.mm (fun _ _ _ => rfl) (hW7.rr 17 (by decide)).1 ?_
                refine s_iloadn dX4_seize_161 rfl rfl ?_
                refine s_dup2 dX4_seize_162 rfl rfl ?_
                refine s_lald' (j := (ix k)) dX4_seize_163 (Or.inr (Or.inl (hW7.rr 17 (by decide)).2.1)) (inr_ix (isC hcl hn c_5)).symm (by rw [(hW7.rr 17 (by decide)).2.2]; exact (Nat.lt_of_lt_of_le (inr_lt (isC hcl hn c_5) hn) hn)) (by rw [(hW7.rr 17 (by decide)).2.2]; decide) ?_
                rw [hW7.aj 17 (by decide)]
                refine s_lload dX4_seize_164 rfl ?_
                refine s_lsub dX4_seize_166 ?_
                refine s_last' (j := (ix k)) dX4_seize_167 (Or.inr (Or.inl (hW7.rr 17 (by decide)).2.1)) (inr_ix (isC hcl hn c_5)).symm (by rw [(hW7.rr 17 (by decide)).2.2]; exact (Nat.lt_of_lt_of_le (inr_lt (isC hcl hn c_5) hn) hn)) (by rw [(hW7.rr 17 (by decide)).2.2]; decide) ?_
                have hW13 := hW7.paj (f := 17) (by decide) (k := (ix k)) (v := (c.aj 17 (ix k)) - (c.aj 17 (ix k)))
                have hF13 := hF7.uJ (a := (w.ar 17)) (k := (ix k)) (v := (c.aj 17 (ix k)) - (c.aj 17 (ix k))) (kd := 10) ((hW7.rr 17 (by decide)).2.1) (by decide)
                refine s_aloadn dX4_seize_168 rfl rfl ?_
                refine s_getR (n := 71) dX4_seize_169 rfl hW13.mm (fun _ _ _ => rfl) (hW13.rr 10 (by decide)).1 ?_
                refine s_iloadn dX4_seize_172 rfl rfl ?_
                refine s_dup2 dX4_seize_173 rfl rfl ?_
                refine s_lald' (j := (ix k)) dX4_seize_174 (Or.inr (Or.inl (hW13.rr 10 (by decide)).2.1)) (inr_ix (isC hcl hn c_5)).symm (by rw [(hW13.rr 10 (by decide)).2.2]; exact (Nat.lt_of_lt_of_le (inr_lt (isC hcl hn c_5) hn) hn)) (by rw [(hW13.rr 10 (by decide)).2.2]; decide) ?_
                rw [hW13.aj 10 (by decide)]
                rw [show (((c.pti 0 0).pai 33 (ix g) 1).paj 17 (ix k) ((c.aj 17 (ix k)) - (c.aj 17 (ix k)))).aj 10 (ix k) = (c.aj 10 (ix k)) from (rfl)]
                refine s_lload dX4_seize_175 rfl ?_
                refine s_lsub dX4_seize_177 ?_
                refine s_last' (j := (ix k)) dX4_seize_178 (Or.inr (Or.inl (hW13.rr 10 (by decide)).2.1)) (inr_ix (isC hcl hn c_5)).symm (by rw [(hW13.rr 10 (by decide)).2.2]; exact (Nat.lt_of_lt_of_le (inr_lt (isC hcl hn c_5) hn) hn)) (by rw [(hW13.rr 10 (by decide)).2.2]; decide) ?_
                have hW14 := hW13.paj (f := 10) (by decide) (k := (ix k)) (v := (c.aj 10 (ix k)) - ((((c.ai 32 (ix g)) : Int32).toInt64) - (c.aj 17 (ix k))))
                have hF14 := hF13.uJ (a := (w.ar 10)) (k := (ix k)) (v := (c.aj 10 (ix k)) - ((((c.ai 32 (ix g)) : Int32).toInt64) - (c.aj 17 (ix k)))) (kd := 10) ((hW13.rr 10 (by decide)).2.1) (by decide)
                refine s_aloadn dX4_seize_179 rfl rfl ?_
                refine s_getR (n := 80) dX4_seize_180 rfl hW14.mm (fun _ _ _ => rfl) (hW14.rr 19 (by decide)).1 ?_
                refine s_iloadn dX4_seize_183 rfl rfl ?_
                refine s_dup2 dX4_seize_184 rfl rfl ?_
                refine s_lald' (j := (ix k)) dX4_seize_185 (Or.inr (Or.inl (hW14.rr 19 (by decide)).2.1)) (inr_ix (isC hcl hn c_5)).symm (by rw [(hW14.rr 19 (by decide)).2.2]; exact (Nat.lt_of_lt_of_le (inr_lt (isC hcl hn c_5) hn) hn)) (by rw [(hW14.rr 19 (by decide)).2.2]; decide) ?_
                rw [hW14.aj 19 (by decide)]
                rw [show ((((c.pti 0 0).pai 33 (ix g) 1).paj 17 (ix k) ((c.aj 17 (ix k)) - (c.aj 17 (ix k)))).paj 10 (ix k) ((c.aj 10 (ix k)) - ((((c.ai 32 (ix g)) : Int32).toInt64) - (c.aj 17 (ix k))))).aj 19 (ix k) = (c.aj 19 (ix k)) from (rfl)]
                refine s_lload dX4_seize_186 rfl ?_
                refine s_lload dX4_seize_188 rfl ?_
                refine s_ladd dX4_seize_190 ?_
                refine s_ladd dX4_seize_191 ?_
                refine s_last' (j := (ix k)) dX4_seize_192 (Or.inr (Or.inl (hW14.rr 19 (by decide)).2.1)) (inr_ix (isC hcl hn c_5)).symm (by rw [(hW14.rr 19 (by decide)).2.2]; exact (Nat.lt_of_lt_of_le (inr_lt (isC hcl hn c_5) hn) hn)) (by rw [(hW14.rr 19 (by decide)).2.2]; decide) ?_
                have hW15 := hW14.paj (f := 19) (by decide) (k := (ix k)) (v := (c.aj 19 (ix k)) + ((c.aj 17 (ix k)) + ((((c.ai 32 (ix g)) : Int32).toInt64) - (c.aj 17 (ix k)))))
                have hF15 := hF14.uJ (a := (w.ar 19)) (k := (ix k)) (v := (c.aj 19 (ix k)) + ((c.aj 17 (ix k)) + ((((c.ai 32 (ix g)) : Int32).toInt64) - (c.aj 17 (ix k))))) (kd := 10) ((hW14.rr 19 (by decide)).2.1) (by decide)
                refine s_aloadn dX4_seize_193 rfl rfl ?_
                refine s_dup dX4_seize_194 rfl ?_
                refine s_get (v := .long (c.tj 2)) (n := 63) dX4_seize_195 rfl hW15.mm (congrArg Value.long (congrFun hW15.tj 2)) ?_
                refine s_lload dX4_seize_198 rfl ?_
                refine s_lload dX4_seize_200 rfl ?_
                refine s_lsub dX4_seize_202 ?_
                refine s_ladd dX4_seize_203 ?_
                refine s_putJ (n := 63) dX4_seize_204 rfl hW15.mm (Or.inl rfl) (fun _ _ _ => rfl) rfl rfl ?_
                have hW16 := hW15.ptj (k := 2) (v := (c.tj 2) + (((((c.ai 32 (ix g)) : Int32).toInt64) - (c.aj 17 (ix k))) - ((((c.ai 32 (ix g)) : Int32).toInt64) - (c.aj 17 (ix k)))))
                have hF16 := hF15.uJ (a := w.mm) (k := 2) (v := (c.tj 2) + (((((c.ai 32 (ix g)) : Int32).toInt64) - (c.aj 17 (ix k))) - ((((c.ai 32 (ix g)) : Int32).toInt64) - (c.aj 17 (ix k))))) (kd := 5) hW15.mm (by decide)
                refine s_aloadn dX4_seize_207 rfl rfl ?_
                refine s_iloadn dX4_seize_208 rfl rfl ?_
                refine s_cv1R (n := 52) dX4_seize_209 rfl (kv hW16.mm (by decide) rfl) rfl (by decide) (by decide) (by decide) (by decide) (Nat.le_of_ble_eq_true rfl) (by have q : Ev tm M_X4_owed [.ref w.mm, .int (nI (ix k))] (uJ (uJ (uJ (uJ (uI S6 (w.ar 33) (ix g) 1) (w.ar 17) (ix k) ((c.aj 17 (ix k)) - (c.aj 17 (ix k)))) (w.ar 10) (ix k) ((c.aj 10 (ix k)) - ((((c.ai 32 (ix g)) : Int32).toInt64) - (c.aj 17 (ix k))))) (w.ar 19) (ix k) ((c.aj 19 (ix k)) + ((c.aj 17 (ix k)) + ((((c.ai 32 (ix g)) : Int32).toInt64) - (c.aj 17 (ix k)))))) w.mm 2 ((c.tj 2) + (((((c.ai 32 (ix g)) : Int32).toInt64) - (c.aj 17 (ix k))) - ((((c.ai 32 (ix g)) : Int32).toInt64) - (c.aj 17 (ix k)))))) _ := m_X4_owed hW16 (Nat.lt_of_lt_of_le (inr_lt (isC hcl hn c_5) hn) hn); rw [← ((inr_ix (isC hcl hn c_5)).symm)] at q; exact q) ?_
                refine s_lconst (v := 0) dX4_seize_212 (by decide) ?_
                refine s_lcne (tgt := 222) dX4_seize_213 dX4_seize_214 (by decide) (fun c_213 => ?_) (fun c_213 => ?_)
                · skip
                  refine s_lload dX4_seize_222 rfl ?_
                  refine s_lload dX4_seize_224 rfl ?_
                  refine s_ladd dX4_seize_226 ?_
                  exact s_retl dX4_seize_227 rfl (NJ.of (F := f_X4_seize n nt c k g) (x := (c.aj 17 (ix k)) + ((((c.ai 32 (ix g)) : Int32).toInt64) - (c.aj 17 (ix k)))) (by unfold f_X4_seize; rw [if_neg c_5, if_neg c_19, if_pos c_43, if_pos c_53, if_pos c_62, if_pos c_98, if_neg c_140, if_neg c_213]) hW16 hF16)
                · skip
                  refine s_aloadn dX4_seize_217 rfl rfl ?_
                  refine s_iloadn dX4_seize_218 rfl rfl ?_
                  refine s_cv1G (n := 55) dX4_seize_219 rfl (kv hW16.mm (by decide) rfl) rfl (by decide) (by decide) (by decide) (by decide) (Nat.le_of_ble_eq_true rfl) (by have q := m_X4_ends (tm := tm) hW16 (Nat.lt_of_lt_of_le (inr_lt (isC hcl hn c_5) hn) hn); rw [← ((inr_ix (isC hcl hn c_5)).symm)] at q; exact q) (fun r17 S17 hr17 => ?_) (fun x S2 hr => by obtain ⟨e, -⟩ := hr; cases e)
                  obtain ⟨e17, hW17, hG17⟩ := hr17
                  cases e17
                  have hF17 := hF16.tr hG17
                  refine s_lload dX4_seize_222 rfl ?_
                  refine s_lload dX4_seize_224 rfl ?_
                  refine s_ladd dX4_seize_226 ?_
                  exact s_retl dX4_seize_227 rfl (NJ.of (F := f_X4_seize n nt c k g) (x := (c.aj 17 (ix k)) + ((((c.ai 32 (ix g)) : Int32).toInt64) - (c.aj 17 (ix k)))) (by unfold f_X4_seize; rw [if_neg c_5, if_neg c_19, if_pos c_43, if_pos c_53, if_pos c_62, if_pos c_98, if_neg c_140, if_pos c_213]) hW17 hF17)
            · skip
              refine s_aloadn dX4_seize_102 rfl rfl ?_
              refine s_getR (n := 93) dX4_seize_103 rfl hW7.mm (fun _ _ _ => rfl) (hW7.rr 32 (by decide)).1 ?_
              refine s_iloadn dX4_seize_106 rfl rfl ?_
              refine s_iald' (j := (ix g)) dX4_seize_107 ((hW7.rr 32 (by decide)).2.1) (inr_ix (isT hct hnt c_19)).symm (by rw [(hW7.rr 32 (by decide)).2.2]; exact (Nat.lt_of_lt_of_le (inr_lt (isT hct hnt c_19) (Nat.le_trans hnt (by decide))) hnt)) (by rw [(hW7.rr 32 (by decide)).2.2]; decide) ?_
              rw [hW7.ai 32 (by decide)]
              rw [show ((c.pti 0 0).pai 33 (ix g) 1).ai 32 (ix g) = (c.ai 32 (ix g)) from (rfl)]
              refine s_i2l dX4_seize_108 ?_
              refine s_goto (tgt := 118) dX4_seize_109 (by decide) ?_
              refine s_lstore dX4_seize_118 (by decide) ?_
              refine s_aloadn dX4_seize_120 rfl rfl ?_
              refine s_getR (n := 93) dX4_seize_121 rfl hW7.mm (fun _ _ _ => rfl) (hW7.rr 32 (by decide)).1 ?_
              refine s_iloadn dX4_seize_124 rfl rfl ?_
              refine s_iald' (j := (ix g)) dX4_seize_125 ((hW7.rr 32 (by decide)).2.1) (inr_ix (isT hct hnt c_19)).symm (by rw [(hW7.rr 32 (by decide)).2.2]; exact (Nat.lt_of_lt_of_le (inr_lt (isT hct hnt c_19) (Nat.le_trans hnt (by decide))) hnt)) (by rw [(hW7.rr 32 (by decide)).2.2]; decide) ?_
              rw [hW7.ai 32 (by decide)]
              rw [show ((c.pti 0 0).pai 33 (ix g) 1).ai 32 (ix g) = (c.ai 32 (ix g)) from (rfl)]
              refine s_i2l dX4_seize_126 ?_
              refine s_lload dX4_seize_127 rfl ?_
              refine s_lsub dX4_seize_129 ?_
              refine s_lstore dX4_seize_130 (by decide) ?_
              refine s_lload dX4_seize_132 rfl ?_
              refine s_aloadn dX4_seize_134 rfl rfl ?_
              refine s_getR (n := 71) dX4_seize_135 rfl hW7.mm (fun _ _ _ => rfl) (hW7.rr 10 (by decide)).1 ?_
              refine s_iloadn dX4_seize_138 rfl rfl ?_
              refine s_lald' (j := (ix k)) dX4_seize_139 (Or.inr (Or.inl (hW7.rr 10 (by decide)).2.1)) (inr_ix (isC hcl hn c_5)).symm (by rw [(hW7.rr 10 (by decide)).2.2]; exact (Nat.lt_of_lt_of_le (inr_lt (isC hcl hn c_5) hn) hn)) (by rw [(hW7.rr 10 (by decide)).2.2]; decide) ?_
              rw [hW7.aj 10 (by decide)]
              refine s_lcge (tgt := 149) dX4_seize_140 dX4_seize_141 (by decide) (fun c_140 => ?_) (fun c_140 => ?_)
              · skip
                refine s_aloadn dX4_seize_149 rfl rfl ?_
                refine s_getR (n := 71) dX4_seize_150 rfl hW7.mm (fun _ _ _ => rfl) (hW7.rr 10 (by decide)).1 ?_
                refine s_iloadn dX4_seize_153 rfl rfl ?_
                refine s_lald' (j := (ix k)) dX4_seize_154 (Or.inr (Or.inl (hW7.rr 10 (by decide)).2.1)) (inr_ix (isC hcl hn c_5)).symm (by rw [(hW7.rr 10 (by decide)).2.2]; exact (Nat.lt_of_lt_of_le (inr_lt (isC hcl hn c_5) hn) hn)) (by rw [(hW7.rr 10 (by decide)).2.2]; decide) ?_
                rw [hW7.aj 10 (by decide)]
                refine s_lstore dX4_seize_155 (by decide) ?_
                refine s_aloadn dX4_seize_157 rfl rfl ?_
                refine s_getR (n := 78) dX4_seize_158 rfl hW7.mm (fun _ _ _ => rfl) (hW7.rr 17 (by decide)).1 ?_
                refine s_iloadn dX4_seize_161 rfl rfl ?_
                refine s_dup2 dX4_seize_162 rfl rfl ?_
                refine s_lald' (j := (ix k)) dX4_seize_163 (Or.inr (Or.inl (hW7.rr 17 (by decide)).2.1)) (inr_ix (isC hcl hn c_5)).symm (by rw [(hW7.rr 17 (by decide)).2.2]; exact (Nat.lt_of_lt_of_le (inr_lt (isC hcl hn c_5) hn) hn)) (by rw [(hW7.rr 17 (by decide)).2.2]; decide) ?_
                rw [hW7.aj 17 (by decide)]
                refine s_lload dX4_seize_164 rfl ?_
                refine s_lsub dX4_seize_166 ?_
                refine s_last' (j := (ix k)) dX4_seize_167 (Or.inr (Or.inl (hW7.rr 17 (by decide)).2.1)) (inr_ix (isC hcl hn c_5)).symm (by rw [(hW7.rr 17 (by decide)).2.2]; exact (Nat.lt_of_lt_of_le (inr_lt (isC hcl hn c_5) hn) hn)) (by rw [(hW7.rr 17 (by decide)).2.2]; decide) ?_
                have hW18 := hW7.paj (f := 17) (by decide) (k := (ix k)) (v := (c.aj 17 (ix k)) - (((c.ai 32 (ix g)) : Int32).toInt64))
                have hF18 := hF7.uJ (a := (w.ar 17)) (k := (ix k)) (v := (c.aj 17 (ix k)) - (((c.ai 32 (ix g)) : Int32).toInt64)) (kd := 10) ((hW7.rr 17 (by decide)).2.1) (by decide)
                refine s_aloadn dX4_seize_168 rfl rfl ?_
                refine s_getR (n := 71) dX4_seize_169 rfl hW18.mm (fun _ _ _ => rfl) (hW18.rr 10 (by decide)).1 ?_
                refine s_iloadn dX4_seize_172 rfl rfl ?_
                refine s_dup2 dX4_seize_173 rfl rfl ?_
                refine s_lald' (j := (ix k)) dX4_seize_174 (Or.inr (Or.inl (hW18.rr 10 (by decide)).2.1)) (inr_ix (isC hcl hn c_5)).symm (by rw [(hW18.rr 10 (by decide)).2.2]; exact (Nat.lt_of_lt_of_le (inr_lt (isC hcl hn c_5) hn) hn)) (by rw [(hW18.rr 10 (by decide)).2.2]; decide) ?_
                rw [hW18.aj 10 (by decide)]
                rw [show (((c.pti 0 0).pai 33 (ix g) 1).paj 17 (ix k) ((c.aj 17 (ix k)) - (((c.ai 32 (ix g)) : Int32).toInt64))).aj 10 (ix k) = (c.aj 10 (ix k)) from (rfl)]
                refine s_lload dX4_seize_175 rfl ?_
                refine s_lsub dX4_seize_177 ?_
                refine s_last' (j := (ix k)) dX4_seize_178 (Or.inr (Or.inl (hW18.rr 10 (by decide)).2.1)) (inr_ix (isC hcl hn c_5)).symm (by rw [(hW18.rr 10 (by decide)).2.2]; exact (Nat.lt_of_lt_of_le (inr_lt (isC hcl hn c_5) hn) hn)) (by rw [(hW18.rr 10 (by decide)).2.2]; decide) ?_
                have hW19 := hW18.paj (f := 10) (by decide) (k := (ix k)) (v := (c.aj 10 (ix k)) - (c.aj 10 (ix k)))
                have hF19 := hF18.uJ (a := (w.ar 10)) (k := (ix k)) (v := (c.aj 10 (ix k)) - (c.aj 10 (ix k))) (kd := 10) ((hW18.rr 10 (by decide)).2.1) (by decide)
                refine s_aloadn dX4_seize_179 rfl rfl ?_
                refine s_getR (n := 80) dX4_seize_180 rfl hW19.mm (fun _ _ _ => rfl) (hW19.rr 19 (by decide)).1 ?_
                refine s_iloadn dX4_seize_183 rfl rfl ?_
                refine s_dup2 dX4_seize_184 rfl rfl ?_
                refine s_lald' (j := (ix k)) dX4_seize_185 (Or.inr (Or.inl (hW19.rr 19 (by decide)).2.1)) (inr_ix (isC hcl hn c_5)).symm (by rw [(hW19.rr 19 (by decide)).2.2]; exact (Nat.lt_of_lt_of_le (inr_lt (isC hcl hn c_5) hn) hn)) (by rw [(hW19.rr 19 (by decide)).2.2]; decide) ?_
                rw [hW19.aj 19 (by decide)]
                rw [show ((((c.pti 0 0).pai 33 (ix g) 1).paj 17 (ix k) ((c.aj 17 (ix k)) - (((c.ai 32 (ix g)) : Int32).toInt64))).paj 10 (ix k) ((c.aj 10 (ix k)) - (c.aj 10 (ix k)))).aj 19 (ix k) = (c.aj 19 (ix k)) from (rfl)]
                refine s_lload dX4_seize_186 rfl ?_
                refine s_lload dX4_seize_188 rfl ?_
                refine s_ladd dX4_seize_190 ?_
                refine s_ladd dX4_seize_191 ?_
                refine s_last' (j := (ix k)) dX4_seize_192 (Or.inr (Or.inl (hW19.rr 19 (by decide)).2.1)) (inr_ix (isC hcl hn c_5)).symm (by rw [(hW19.rr 19 (by decide)).2.2]; exact (Nat.lt_of_lt_of_le (inr_lt (isC hcl hn c_5) hn) hn)) (by rw [(hW19.rr 19 (by decide)).2.2]; decide) ?_
                have hW20 := hW19.paj (f := 19) (by decide) (k := (ix k)) (v := (c.aj 19 (ix k)) + ((((c.ai 32 (ix g)) : Int32).toInt64) + (c.aj 10 (ix k))))
                have hF20 := hF19.uJ (a := (w.ar 19)) (k := (ix k)) (v := (c.aj 19 (ix k)) + ((((c.ai 32 (ix g)) : Int32).toInt64) + (c.aj 10 (ix k)))) (kd := 10) ((hW19.rr 19 (by decide)).2.1) (by decide)
                refine s_aloadn dX4_seize_193 rfl rfl ?_
                refine s_dup dX4_seize_194 rfl ?_
                refine s_get (v := .long (c.tj 2)) (n := 63) dX4_seize_195 rfl hW20.mm (congrArg Value.long (congrFun hW20.tj 2)) ?_
                refine s_lload dX4_seize_198 rfl ?_
                refine s_lload dX4_seize_200 rfl ?_
                refine s_lsub dX4_seize_202 ?_
                refine s_ladd dX4_seize_203 ?_
                refine s_putJ (n := 63) dX4_seize_204 rfl hW20.mm (Or.inl rfl) (fun _ _ _ => rfl) rfl rfl ?_
                have hW21 := hW20.ptj (k := 2) (v := (c.tj 2) + (((((c.ai 32 (ix g)) : Int32).toInt64) - (((c.ai 32 (ix g)) : Int32).toInt64)) - (c.aj 10 (ix k))))
                have hF21 := hF20.uJ (a := w.mm) (k := 2) (v := (c.tj 2) + (((((c.ai 32 (ix g)) : Int32).toInt64) - (((c.ai 32 (ix g)) : Int32).toInt64)) - (c.aj 10 (ix k)))) (kd := 5) hW20.mm (by decide)
                refine s_aloadn dX4_seize_207 rfl rfl ?_
                refine s_iloadn dX4_seize_208 rfl rfl ?_
                refine s_cv1R (n := 52) dX4_seize_209 rfl (kv hW21.mm (by decide) rfl) rfl (by decide) (by decide) (by decide) (by decide) (Nat.le_of_ble_eq_true rfl) (by have q : Ev tm M_X4_owed [.ref w.mm, .int (nI (ix k))] (uJ (uJ (uJ (uJ (uI S6 (w.ar 33) (ix g) 1) (w.ar 17) (ix k) ((c.aj 17 (ix k)) - (((c.ai 32 (ix g)) : Int32).toInt64))) (w.ar 10) (ix k) ((c.aj 10 (ix k)) - (c.aj 10 (ix k)))) (w.ar 19) (ix k) ((c.aj 19 (ix k)) + ((((c.ai 32 (ix g)) : Int32).toInt64) + (c.aj 10 (ix k))))) w.mm 2 ((c.tj 2) + (((((c.ai 32 (ix g)) : Int32).toInt64) - (((c.ai 32 (ix g)) : Int32).toInt64)) - (c.aj 10 (ix k))))) _ := m_X4_owed hW21 (Nat.lt_of_lt_of_le (inr_lt (isC hcl hn c_5) hn) hn); rw [← ((inr_ix (isC hcl hn c_5)).symm)] at q; exact q) ?_
                refine s_lconst (v := 0) dX4_seize_212 (by decide) ?_
                refine s_lcne (tgt := 222) dX4_seize_213 dX4_seize_214 (by decide) (fun c_213 => ?_) (fun c_213 => ?_)
                · skip
                  refine s_lload dX4_seize_222 rfl ?_
                  refine s_lload dX4_seize_224 rfl ?_
                  refine s_ladd dX4_seize_226 ?_
                  exact s_retl dX4_seize_227 rfl (NJ.of (F := f_X4_seize n nt c k g) (x := (((c.ai 32 (ix g)) : Int32).toInt64) + (c.aj 10 (ix k))) (by unfold f_X4_seize; rw [if_neg c_5, if_neg c_19, if_pos c_43, if_pos c_53, if_pos c_62, if_neg c_98, if_pos c_140, if_neg c_213]) hW21 hF21)
                · skip
                  refine s_aloadn dX4_seize_217 rfl rfl ?_
                  refine s_iloadn dX4_seize_218 rfl rfl ?_
                  refine s_cv1G (n := 55) dX4_seize_219 rfl (kv hW21.mm (by decide) rfl) rfl (by decide) (by decide) (by decide) (by decide) (Nat.le_of_ble_eq_true rfl) (by have q := m_X4_ends (tm := tm) hW21 (Nat.lt_of_lt_of_le (inr_lt (isC hcl hn c_5) hn) hn); rw [← ((inr_ix (isC hcl hn c_5)).symm)] at q; exact q) (fun r22 S22 hr22 => ?_) (fun x S2 hr => by obtain ⟨e, -⟩ := hr; cases e)
                  obtain ⟨e22, hW22, hG22⟩ := hr22
                  cases e22
                  have hF22 := hF21.tr hG22
                  refine s_lload dX4_seize_222 rfl ?_
                  refine s_lload dX4_seize_224 rfl ?_
                  refine s_ladd dX4_seize_226 ?_
                  exact s_retl dX4_seize_227 rfl (NJ.of (F := f_X4_seize n nt c k g) (x := (((c.ai 32 (ix g)) : Int32).toInt64) + (c.aj 10 (ix k))) (by unfold f_X4_seize; rw [if_neg c_5, if_neg c_19, if_pos c_43, if_pos c_53, if_pos c_62, if_neg c_98, if_pos c_140, if_pos c_213]) hW22 hF22)
              · skip
                refine s_lload dX4_seize_144 rfl ?_
                refine s_goto (tgt := 155) dX4_seize_146 (by decide) ?_
                refine s_lstore dX4_seize_155 (by decide) ?_
                refine s_aloadn dX4_seize_157 rfl rfl ?_
                refine s_getR (n := 78) dX4_seize_158 rfl hW7.mm (fun _ _ _ => rfl) (hW7.rr 17 (by decide)).1 ?_
                refine s_iloadn dX4_seize_161 rfl rfl ?_
                refine s_dup2 dX4_seize_162 rfl rfl ?_
                refine s_lald' (j := (ix k)) dX4_seize_163 (Or.inr (Or.inl (hW7.rr 17 (by decide)).2.1)) (inr_ix (isC hcl hn c_5)).symm (by rw [(hW7.rr 17 (by decide)).2.2]; exact (Nat.lt_of_lt_of_le (inr_lt (isC hcl hn c_5) hn) hn)) (by rw [(hW7.rr 17 (by decide)).2.2]; decide) ?_
                rw [hW7.aj 17 (by decide)]
                refine s_lload dX4_seize_164 rfl ?_
                refine s_lsub dX4_seize_166 ?_
                refine s_last' (j := (ix k)) dX4_seize_167 (Or.inr (Or.inl (hW7.rr 17 (by decide)).2.1)) (inr_ix (isC hcl hn c_5)).symm (by rw [(hW7.rr 17 (by decide)).2.2]; exact (Nat.lt_of_lt_of_le (inr_lt (isC hcl hn c_5) hn) hn)) (by rw [(hW7.rr 17 (by decide)).2.2]; decide) ?_
                have hW23 := hW7.paj (f := 17) (by decide) (k := (ix k)) (v := (c.aj 17 (ix k)) - (((c.ai 32 (ix g)) : Int32).toInt64))
                have hF23 := hF7.uJ (a := (w.ar 17)) (k := (ix k)) (v := (c.aj 17 (ix k)) - (((c.ai 32 (ix g)) : Int32).toInt64)) (kd := 10) ((hW7.rr 17 (by decide)).2.1) (by decide)
                refine s_aloadn dX4_seize_168 rfl rfl ?_
                refine s_getR (n := 71) dX4_seize_169 rfl hW23.mm (fun _ _ _ => rfl) (hW23.rr 10 (by decide)).1 ?_
                refine s_iloadn dX4_seize_172 rfl rfl ?_
                refine s_dup2 dX4_seize_173 rfl rfl ?_
                refine s_lald' (j := (ix k)) dX4_seize_174 (Or.inr (Or.inl (hW23.rr 10 (by decide)).2.1)) (inr_ix (isC hcl hn c_5)).symm (by rw [(hW23.rr 10 (by decide)).2.2]; exact (Nat.lt_of_lt_of_le (inr_lt (isC hcl hn c_5) hn) hn)) (by rw [(hW23.rr 10 (by decide)).2.2]; decide) ?_
                rw [hW23.aj 10 (by decide)]
                rw [show (((c.pti 0 0).pai 33 (ix g) 1).paj 17 (ix k) ((c.aj 17 (ix k)) - (((c.ai 32 (ix g)) : Int32).toInt64))).aj 10 (ix k) = (c.aj 10 (ix k)) from (rfl)]
                refine s_lload dX4_seize_175 rfl ?_
                refine s_lsub dX4_seize_177 ?_
                refine s_last' (j := (ix k)) dX4_seize_178 (Or.inr (Or.inl (hW23.rr 10 (by decide)).2.1)) (inr_ix (isC hcl hn c_5)).symm (by rw [(hW23.rr 10 (by decide)).2.2]; exact (Nat.lt_of_lt_of_le (inr_lt (isC hcl hn c_5) hn) hn)) (by rw [(hW23.rr 10 (by decide)).2.2]; decide) ?_
                have hW24 := hW23.paj (f := 10) (by decide) (k := (ix k)) (v := (c.aj 10 (ix k)) - ((((c.ai 32 (ix g)) : Int32).toInt64) - (((c.ai 32 (ix g)) : Int32).toInt64)))
                have hF24 := hF23.uJ (a := (w.ar 10)) (k := (ix k)) (v := (c.aj 10 (ix k)) - ((((c.ai 32 (ix g)) : Int32).toInt64) - (((c.ai 32 (ix g)) : Int32).toInt64))) (kd := 10) ((hW23.rr 10 (by decide)).2.1) (by decide)
                refine s_aloadn dX4_seize_179 rfl rfl ?_
                refine s_getR (n := 80) dX4_seize_180 rfl hW24.mm (fun _ _ _ => rfl) (hW24.rr 19 (by decide)).1 ?_
                refine s_iloadn dX4_seize_183 rfl rfl ?_
                refine s_dup2 dX4_seize_184 rfl rfl ?_
                refine s_lald' (j := (ix k)) dX4_seize_185 (Or.inr (Or.inl (hW24.rr 19 (by decide)).2.1)) (inr_ix (isC hcl hn c_5)).symm (by rw [(hW24.rr 19 (by decide)).2.2]; exact (Nat.lt_of_lt_of_le (inr_lt (isC hcl hn c_5) hn) hn)) (by rw [(hW24.rr 19 (by decide)).2.2]; decide) ?_
                rw [hW24.aj 19 (by decide)]
                rw [show ((((c.pti 0 0).pai 33 (ix g) 1).paj 17 (ix k) ((c.aj 17 (ix k)) - (((c.ai 32 (ix g)) : Int32).toInt64))).paj 10 (ix k) ((c.aj 10 (ix k)) - ((((c.ai 32 (ix g)) : Int32).toInt64) - (((c.ai 32 (ix g)) : Int32).toInt64)))).aj 19 (ix k) = (c.aj 19 (ix k)) from (rfl)]
                refine s_lload dX4_seize_186 rfl ?_
                refine s_lload dX4_seize_188 rfl ?_
                refine s_ladd dX4_seize_190 ?_
                refine s_ladd dX4_seize_191 ?_
                refine s_last' (j := (ix k)) dX4_seize_192 (Or.inr (Or.inl (hW24.rr 19 (by decide)).2.1)) (inr_ix (isC hcl hn c_5)).symm (by rw [(hW24.rr 19 (by decide)).2.2]; exact (Nat.lt_of_lt_of_le (inr_lt (isC hcl hn c_5) hn) hn)) (by rw [(hW24.rr 19 (by decide)).2.2]; decide) ?_
                have hW25 := hW24.paj (f := 19) (by decide) (k := (ix k)) (v := (c.aj 19 (ix k)) + ((((c.ai 32 (ix g)) : Int32).toInt64) + ((((c.ai 32 (ix g)) : Int32).toInt64) - (((c.ai 32 (ix g)) : Int32).toInt64))))
                have hF25 := hF24.uJ (a := (w.ar 19)) (k := (ix k)) (v := (c.aj 19 (ix k)) + ((((c.ai 32 (ix g)) : Int32).toInt64) + ((((c.ai 32 (ix g)) : Int32).toInt64) - (((c.ai 32 (ix g)) : Int32).toInt64)))) (kd := 10) ((hW24.rr 19 (by decide)).2.1) (by decide)
                refine s_aloadn dX4_seize_193 rfl rfl ?_
                refine s_dup dX4_seize_194 rfl ?_
                refine s_get (v := .long (c.tj 2)) (n := 63) dX4_seize_195 rfl hW25.mm (congrArg Value.long (congrFun hW25.tj 2)) ?_
                refine s_lload dX4_seize_198 rfl ?_
                refine s_lload dX4_seize_200 rfl ?_
                refine s_lsub dX4_seize_202 ?_
                refine s_ladd dX4_seize_203 ?_
                refine s_putJ (n := 63) dX4_seize_204 rfl hW25.mm (Or.inl rfl) (fun _ _ _ => rfl) rfl rfl ?_
                have hW26 := hW25.ptj (k := 2) (v := (c.tj 2) + (((((c.ai 32 (ix g)) : Int32).toInt64) - (((c.ai 32 (ix g)) : Int32).toInt64)) - ((((c.ai 32 (ix g)) : Int32).toInt64) - (((c.ai 32 (ix g)) : Int32).toInt64))))
                have hF26 := hF25.uJ (a := w.mm) (k := 2) (v := (c.tj 2) + (((((c.ai 32 (ix g)) : Int32).toInt64) - (((c.ai 32 (ix g)) : Int32).toInt64)) - ((((c.ai 32 (ix g)) : Int32).toInt64) - (((c.ai 32 (ix g)) : Int32).toInt64)))) (kd := 5) hW25.mm (by decide)
                refine s_aloadn dX4_seize_207 rfl rfl ?_
                refine s_iloadn dX4_seize_208 rfl rfl ?_
                refine s_cv1R (n := 52) dX4_seize_209 rfl (kv hW26.mm (by decide) rfl) rfl (by decide) (by decide) (by decide) (by decide) (Nat.le_of_ble_eq_true rfl) (by have q : Ev tm M_X4_owed [.ref w.mm, .int (nI (ix k))] (uJ (uJ (uJ (uJ (uI S6 (w.ar 33) (ix g) 1) (w.ar 17) (ix k) ((c.aj 17 (ix k)) - (((c.ai 32 (ix g)) : Int32).toInt64))) (w.ar 10) (ix k) ((c.aj 10 (ix k)) - ((((c.ai 32 (ix g)) : Int32).toInt64) - (((c.ai 32 (ix g)) : Int32).toInt64)))) (w.ar 19) (ix k) ((c.aj 19 (ix k)) + ((((c.ai 32 (ix g)) : Int32).toInt64) + ((((c.ai 32 (ix g)) : Int32).toInt64) - (((c.ai 32 (ix g)) : Int32).toInt64))))) w.mm 2 ((c.tj 2) + (((((c.ai 32 (ix g)) : Int32).toInt64) - (((c.ai 32 (ix g)) : Int32).toInt64)) - ((((c.ai 32 (ix g)) : Int32).toInt64) - (((c.ai 32 (ix g)) : Int32).toInt64))))) _ := m_X4_owed hW26 (Nat.lt_of_lt_of_le (inr_lt (isC hcl hn c_5) hn) hn); rw [← ((inr_ix (isC hcl hn c_5)).symm)] at q; exact q) ?_
                refine s_lconst (v := 0) dX4_seize_212 (by decide) ?_
                refine s_lcne (tgt := 222) dX4_seize_213 dX4_seize_214 (by decide) (fun c_213 => ?_) (fun c_213 => ?_)
                · skip
                  refine s_lload dX4_seize_222 rfl ?_
                  refine s_lload dX4_seize_224 rfl ?_
                  refine s_ladd dX4_seize_226 ?_
                  exact s_retl dX4_seize_227 rfl (NJ.of (F := f_X4_seize n nt c k g) (x := (((c.ai 32 (ix g)) : Int32).toInt64) + ((((c.ai 32 (ix g)) : Int32).toInt64) - (((c.ai 32 (ix g)) : Int32).toInt64))) (by unfold f_X4_seize; rw [if_neg c_5, if_neg c_19, if_pos c_43, if_pos c_53, if_pos c_62, if_neg c_98, if_neg c_140, if_neg c_213]) hW26 hF26)
                · skip
                  refine s_aloadn dX4_seize_217 rfl rfl ?_
                  refine s_iloadn dX4_seize_218 rfl rfl ?_
                  refine s_cv1G (n := 55) dX4_seize_219 rfl (kv hW26.mm (by decide) rfl) rfl (by decide) (by decide) (by decide) (by decide) (Nat.le_of_ble_eq_true rfl) (by have q := m_X4_ends (tm := tm) hW26 (Nat.lt_of_lt_of_le (inr_lt (isC hcl hn c_5) hn) hn); rw [← ((inr_ix (isC hcl hn c_5)).symm)] at q; exact q) (fun r27 S27 hr27 => ?_) (fun x S2 hr => by obtain ⟨e, -⟩ := hr; cases e)
                  obtain ⟨e27, hW27, hG27⟩ := hr27
                  cases e27
                  have hF27 := hF26.tr hG27
                  refine s_lload dX4_seize_222 rfl ?_
                  refine s_lload dX4_seize_224 rfl ?_
                  refine s_ladd dX4_seize_226 ?_
                  exact s_retl dX4_seize_227 rfl (NJ.of (F := f_X4_seize n nt c k g) (x := (((c.ai 32 (ix g)) : Int32).toInt64) + ((((c.ai 32 (ix g)) : Int32).toInt64) - (((c.ai 32 (ix g)) : Int32).toInt64))) (by unfold f_X4_seize; rw [if_neg c_5, if_neg c_19, if_pos c_43, if_pos c_53, if_pos c_62, if_neg c_98, if_neg c_140, if_pos c_213]) hW27 hF27)
def f_X4_passes (n : Nat) (no : Nat) (c : MC) (o s : Int32) : Int32 × MC := if (f_X4_isOffer c o) = 0 then (0, (c.pti 0 1)) else (if (f_X4_isIn s (-1) 3) = 0 then (0, (c.pti 0 1)) else (if (f_X4_isPassed n (c.pti 0 0) (ix o) s) = 0 then (0, (c.pti 0 0)) else (1, (c.pti 0 0))))
set_option maxHeartbeats 4000000 in
theorem m_X4_passes {tm : Nat × Nat} {S : Sto} {w : MAd} {c : MC} {n : Nat} {no : Nat} {o s : Int32} (hW : MW S w c) (hcl : c.ti 7 = nI n) (hn : n ≤ 40) (hco : c.ti 23 = nI no) (hno : no ≤ 12)  : Ev tm M_X4_passes [.ref w.mm, .int o, .int s] S (NI w S (f_X4_passes n no c o s)) := by
  have hF : FrM S S := FrM.rf
  refine ev_in ok_X4_passes (Nat.le_of_ble_eq_true rfl) ?_
  refine s_aloadn dX4_passes_0 rfl rfl ?_
  refine s_aloadn dX4_passes_1 rfl rfl ?_
  refine s_iloadn dX4_passes_2 rfl rfl ?_
  refine s_cv1R (n := 61) dX4_passes_3 rfl (kv hW.mm (by decide) rfl) rfl (by decide) (by decide) (by decide) (by decide) (Nat.le_of_ble_eq_true rfl) (m_X4_isOffer hW) ?_
  refine s_ifeq (tgt := 22) dX4_passes_6 (by decide) (fun c_6 => ?_) (fun c_6 => ?_)
  · skip
    refine s_iconst (v := 1) dX4_passes_22 (by decide) ?_
    refine s_cv1G (n := 49) dX4_passes_23 rfl (kv hW.mm (by decide) rfl) rfl (by decide) (by decide) (by decide) (by decide) (Nat.le_of_ble_eq_true rfl) (m_holdsP (p := 1) hW (by decide)) (fun r1 S1 hr1 => ?_) (fun x S2 hr => by obtain ⟨e, -⟩ := hr; cases e)
    obtain ⟨e1, hW1, hG1⟩ := hr1
    cases e1
    have hF1 := hF.tr hG1
    refine s_ifeq (tgt := 42) dX4_passes_26 (by decide) (fun _ => ?_) (fun c => absurd c (by decide))
    refine s_iconst (v := 0) dX4_passes_42 (by decide) ?_
    exact s_reti dX4_passes_43 rfl rfl (NI.of (F := f_X4_passes n no c o s) (x := 0) (by unfold f_X4_passes; rw [if_pos c_6]) hW1 hF1)
  · skip
    refine s_iloadn dX4_passes_9 rfl rfl ?_
    refine s_iconst (v := (-1)) dX4_passes_10 (by decide) ?_
    refine s_iconst (v := 3) dX4_passes_11 (by decide) ?_
    refine s_cs3R (n := 23) dX4_passes_12 rfl rfl (by decide) (by decide) (by decide) (by decide) (Nat.le_of_ble_eq_true rfl) (m_X4_isIn) ?_
    refine s_ifeq (tgt := 22) dX4_passes_15 (by decide) (fun c_15 => ?_) (fun c_15 => ?_)
    · skip
      refine s_iconst (v := 1) dX4_passes_22 (by decide) ?_
      refine s_cv1G (n := 49) dX4_passes_23 rfl (kv hW.mm (by decide) rfl) rfl (by decide) (by decide) (by decide) (by decide) (Nat.le_of_ble_eq_true rfl) (m_holdsP (p := 1) hW (by decide)) (fun r2 S2 hr2 => ?_) (fun x S2 hr => by obtain ⟨e, -⟩ := hr; cases e)
      obtain ⟨e2, hW2, hG2⟩ := hr2
      cases e2
      have hF2 := hF.tr hG2
      refine s_ifeq (tgt := 42) dX4_passes_26 (by decide) (fun _ => ?_) (fun c => absurd c (by decide))
      refine s_iconst (v := 0) dX4_passes_42 (by decide) ?_
      exact s_reti dX4_passes_43 rfl rfl (NI.of (F := f_X4_passes n no c o s) (x := 0) (by unfold f_X4_passes; rw [if_neg c_6, if_pos c_15]) hW2 hF2)
    · skip
      refine s_iconst (v := 0) dX4_passes_18 (by decide) ?_
      refine s_goto (tgt := 23) dX4_passes_19 (by decide) ?_
      refine s_cv1G (n := 49) dX4_passes_23 rfl (kv hW.mm (by decide) rfl) rfl (by decide) (by decide) (by decide) (by decide) (Nat.le_of_ble_eq_true rfl) (m_holds0 hW) (fun r3 S3 hr3 => ?_) (fun x S2 hr => by obtain ⟨e, -⟩ := hr; cases e)
      obtain ⟨e3, hW3, hG3⟩ := hr3
      cases e3
      have hF3 := hF.tr hG3
      refine s_ifeq (tgt := 42) dX4_passes_26 (by decide) (fun c => absurd c (by decide)) (fun _ => ?_)
      refine s_aloadn dX4_passes_29 rfl rfl ?_
      refine s_iloadn dX4_passes_30 rfl rfl ?_
      refine s_iloadn dX4_passes_31 rfl rfl ?_
      refine s_cv2R (n := 67) dX4_passes_32 rfl (kv hW3.mm (by decide) rfl) rfl (by decide) (by decide) (by decide) (by decide) (Nat.le_of_ble_eq_true rfl) (by have q : Ev tm M_X4_isPassed [.ref w.mm, .int (nI (ix o)), .int s] S3 _ := m_X4_isPassed hW3 hcl hn (Nat.lt_of_lt_of_le (inr_lt (isO hco hno c_6) (Nat.le_trans hno (by decide))) hno); rw [← ((inr_ix (isO hco hno c_6)).symm)] at q; exact q) ?_
      refine s_ifeq (tgt := 42) dX4_passes_35 (by decide) (fun c_35 => ?_) (fun c_35 => ?_)
      · skip
        refine s_iconst (v := 0) dX4_passes_42 (by decide) ?_
        exact s_reti dX4_passes_43 rfl rfl (NI.of (F := f_X4_passes n no c o s) (x := 0) (by unfold f_X4_passes; rw [if_neg c_6, if_neg c_15, if_pos c_35]) hW3 hF3)
      · skip
        refine s_iconst (v := 1) dX4_passes_38 (by decide) ?_
        refine s_goto (tgt := 43) dX4_passes_39 (by decide) ?_
        exact s_reti dX4_passes_43 rfl rfl (NI.of (F := f_X4_passes n no c o s) (x := 1) (by unfold f_X4_passes; rw [if_neg c_6, if_neg c_15, if_neg c_35]) hW3 hF3)
def f_X4_value (n : Nat) (c : MC) (k r : Int32) : Int64 × MC := if (f_X4_isClaim c k) = 0 then (0, (c.pti 0 1)) else (if (f_X4_isIn r 0 1500) = 0 then (0, (c.pti 0 2)) else ((f_X4_valueOf (c.pti 0 0) (ix k) r), (c.pti 0 0)))
set_option maxHeartbeats 4000000 in
theorem m_X4_value {tm : Nat × Nat} {S : Sto} {w : MAd} {c : MC} {n : Nat} {k r : Int32} (hW : MW S w c) (hcl : c.ti 7 = nI n) (hn : n ≤ 40) (hy : 0 ≤ (c.ti 1).toInt ∧ (c.ti 1).toInt ≤ 100) (hdd : ∀ i, i < n → 0 ≤ (c.ai 12 i).toInt ∧ (c.ai 12 i).toInt ≤ 200)  : Ev tm M_X4_value [.ref w.mm, .int k, .int r] S (NJ w S (f_X4_value n c k r)) := by
  have hF : FrM S S := FrM.rf
  refine ev_in ok_X4_value (Nat.le_of_ble_eq_true rfl) ?_
  refine s_aloadn dX4_value_0 rfl rfl ?_
  refine s_aloadn dX4_value_1 rfl rfl ?_
  refine s_iloadn dX4_value_2 rfl rfl ?_
  refine s_cv1R (n := 51) dX4_value_3 rfl (kv hW.mm (by decide) rfl) rfl (by decide) (by decide) (by decide) (by decide) (Nat.le_of_ble_eq_true rfl) (m_X4_isClaim hW) ?_
  refine s_ifne (tgt := 13) dX4_value_6 (by decide) (fun c_6 => ?_) (fun c_6 => ?_)
  · skip
    refine s_iloadn dX4_value_13 rfl rfl ?_
    refine s_iconst (v := 0) dX4_value_14 (by decide) ?_
    refine s_sipush (v := 1500) dX4_value_15 (by decide) ?_
    refine s_cs3R (n := 23) dX4_value_18 rfl rfl (by decide) (by decide) (by decide) (by decide) (Nat.le_of_ble_eq_true rfl) (m_X4_isIn) ?_
    refine s_ifeq (tgt := 28) dX4_value_21 (by decide) (fun c_21 => ?_) (fun c_21 => ?_)
    · skip
      refine s_iconst (v := 2) dX4_value_28 (by decide) ?_
      refine s_cv1G (n := 49) dX4_value_29 rfl (kv hW.mm (by decide) rfl) rfl (by decide) (by decide) (by decide) (by decide) (Nat.le_of_ble_eq_true rfl) (m_holdsP (p := 2) hW (by decide)) (fun r1 S1 hr1 => ?_) (fun x S2 hr => by obtain ⟨e, -⟩ := hr; cases e)
      obtain ⟨e1, hW1, hG1⟩ := hr1
      cases e1
      have hF1 := hF.tr hG1
      refine s_ifeq (tgt := 44) dX4_value_32 (by decide) (fun _ => ?_) (fun c => absurd c (by decide))
      refine s_lconst (v := 0) dX4_value_44 (by decide) ?_
      exact s_retl dX4_value_45 rfl (NJ.of (F := f_X4_value n c k r) (x := 0) (by unfold f_X4_value; rw [if_neg c_6, if_pos c_21]) hW1 hF1)
    · skip
      refine s_iconst (v := 0) dX4_value_24 (by decide) ?_
      refine s_goto (tgt := 29) dX4_value_25 (by decide) ?_
      refine s_cv1G (n := 49) dX4_value_29 rfl (kv hW.mm (by decide) rfl) rfl (by decide) (by decide) (by decide) (by decide) (Nat.le_of_ble_eq_true rfl) (m_holds0 hW) (fun r2 S2 hr2 => ?_) (fun x S2 hr => by obtain ⟨e, -⟩ := hr; cases e)
      obtain ⟨e2, hW2, hG2⟩ := hr2
      cases e2
      have hF2 := hF.tr hG2
      refine s_ifeq (tgt := 44) dX4_value_32 (by decide) (fun c => absurd c (by decide)) (fun _ => ?_)
      refine s_aloadn dX4_value_35 rfl rfl ?_
      refine s_iloadn dX4_value_36 rfl rfl ?_
      refine s_iloadn dX4_value_37 rfl rfl ?_
      refine s_cv2R (n := 59) dX4_value_38 rfl (kv hW2.mm (by decide) rfl) rfl (by decide) (by decide) (by decide) (by decide) (Nat.le_of_ble_eq_true rfl) (by have q : Ev tm M_X4_valueOf [.ref w.mm, .int (nI (ix k)), .int r] S2 _ := m_X4_valueOf hW2 (Nat.lt_of_lt_of_le (inr_lt (isC hcl hn c_6) hn) hn) hy (hdd _ (inr_lt (isC hcl hn c_6) hn)) (rz c_21); rw [← ((inr_ix (isC hcl hn c_6)).symm)] at q; exact q) ?_
      refine s_goto (tgt := 45) dX4_value_41 (by decide) ?_
      exact s_retl dX4_value_45 rfl (NJ.of (F := f_X4_value n c k r) (x := (f_X4_valueOf (c.pti 0 0) (ix k) r)) (by unfold f_X4_value; rw [if_neg c_6, if_neg c_21]) hW2 hF2)
  · skip
    refine s_iconst (v := 1) dX4_value_9 (by decide) ?_
    refine s_goto (tgt := 29) dX4_value_10 (by decide) ?_
    refine s_cv1G (n := 49) dX4_value_29 rfl (kv hW.mm (by decide) rfl) rfl (by decide) (by decide) (by decide) (by decide) (Nat.le_of_ble_eq_true rfl) (m_holdsP (p := 1) hW (by decide)) (fun r3 S3 hr3 => ?_) (fun x S2 hr => by obtain ⟨e, -⟩ := hr; cases e)
    obtain ⟨e3, hW3, hG3⟩ := hr3
    cases e3
    have hF3 := hF.tr hG3
    refine s_ifeq (tgt := 44) dX4_value_32 (by decide) (fun _ => ?_) (fun c => absurd c (by decide))
    refine s_lconst (v := 0) dX4_value_44 (by decide) ?_
    exact s_retl dX4_value_45 rfl (NJ.of (F := f_X4_value n c k r) (x := 0) (by unfold f_X4_value; rw [if_pos c_6]) hW3 hF3)
def f_X4_offered (n : Nat) (no : Nat) (c : MC) (k o r : Int32) : Int64 × MC := if (f_X4_isClaim c k) = 0 then (0, (c.pti 0 1)) else (if (f_X4_isOffer c o) = 0 then (0, (c.pti 0 1)) else (if (f_X4_isIn r 0 1500) = 0 then (0, (c.pti 0 2)) else (if (c.ai 16 (ix k)) = 0 then ((f_X4_valueBy (c.pti 0 0) (f_X4_cutOf (c.pti 0 0) (ix k) (ix o)) (c.ai 25 (ix o)) ((c.ti 1) + (c.ai 26 (ix o))) r), (c.pti 0 0)) else (0, (c.pti 0 0)))))
set_option maxHeartbeats 4000000 in
theorem m_X4_offered {tm : Nat × Nat} {S : Sto} {w : MAd} {c : MC} {n : Nat} {no : Nat} {k o r : Int32} (hW : MW S w c) (hcl : c.ti 7 = nI n) (hn : n ≤ 40) (hco : c.ti 23 = nI no) (hno : no ≤ 12) (hy : 0 ≤ (c.ti 1).toInt ∧ (c.ti 1).toInt ≤ 100) (hyo : ∀ j, j < no → 0 ≤ (c.ti 1 + c.ai 26 j).toInt ∧ (c.ti 1 + c.ai 26 j).toInt ≤ 200)  : Ev tm M_X4_offered [.ref w.mm, .int k, .int o, .int r] S (NJ w S (f_X4_offered n no c k o r)) := by
  have hF : FrM S S := FrM.rf
  refine ev_in ok_X4_offered (Nat.le_of_ble_eq_true rfl) ?_
  refine s_aloadn dX4_offered_0 rfl rfl ?_
  refine s_aloadn dX4_offered_1 rfl rfl ?_
  refine s_iloadn dX4_offered_2 rfl rfl ?_
  refine s_cv1R (n := 51) dX4_offered_3 rfl (kv hW.mm (by decide) rfl) rfl (by decide) (by decide) (by decide) (by decide) (Nat.le_of_ble_eq_true rfl) (m_X4_isClaim hW) ?_
  refine s_ifeq (tgt := 17) dX4_offered_6 (by decide) (fun c_6 => ?_) (fun c_6 => ?_)
  · skip
    refine s_iconst (v := 1) dX4_offered_17 (by decide) ?_
    refine s_goto (tgt := 37) dX4_offered_18 (by decide) ?_
    refine s_cv1G (n := 49) dX4_offered_37 rfl (kv hW.mm (by decide) rfl) rfl (by decide) (by decide) (by decide) (by decide) (Nat.le_of_ble_eq_true rfl) (m_holdsP (p := 1) hW (by decide)) (fun r1 S1 hr1 => ?_) (fun x S2 hr => by obtain ⟨e, -⟩ := hr; cases e)
    obtain ⟨e1, hW1, hG1⟩ := hr1
    cases e1
    have hF1 := hF.tr hG1
    refine s_ifne (tgt := 45) dX4_offered_40 (by decide) (fun c => absurd c (by decide)) (fun _ => ?_)
    refine s_lconst (v := 0) dX4_offered_43 (by decide) ?_
    exact s_retl dX4_offered_44 rfl (NJ.of (F := f_X4_offered n no c k o r) (x := 0) (by unfold f_X4_offered; rw [if_pos c_6]) hW1 hF1)
  · skip
    refine s_aloadn dX4_offered_9 rfl rfl ?_
    refine s_iloadn dX4_offered_10 rfl rfl ?_
    refine s_cv1R (n := 61) dX4_offered_11 rfl (kv hW.mm (by decide) rfl) rfl (by decide) (by decide) (by decide) (by decide) (Nat.le_of_ble_eq_true rfl) (m_X4_isOffer hW) ?_
    refine s_ifne (tgt := 21) dX4_offered_14 (by decide) (fun c_14 => ?_) (fun c_14 => ?_)
    · skip
      refine s_iloadn dX4_offered_21 rfl rfl ?_
      refine s_iconst (v := 0) dX4_offered_22 (by decide) ?_
      refine s_sipush (v := 1500) dX4_offered_23 (by decide) ?_
      refine s_cs3R (n := 23) dX4_offered_26 rfl rfl (by decide) (by decide) (by decide) (by decide) (Nat.le_of_ble_eq_true rfl) (m_X4_isIn) ?_
      refine s_ifeq (tgt := 36) dX4_offered_29 (by decide) (fun c_29 => ?_) (fun c_29 => ?_)
      · skip
        refine s_iconst (v := 2) dX4_offered_36 (by decide) ?_
        refine s_cv1G (n := 49) dX4_offered_37 rfl (kv hW.mm (by decide) rfl) rfl (by decide) (by decide) (by decide) (by decide) (Nat.le_of_ble_eq_true rfl) (m_holdsP (p := 2) hW (by decide)) (fun r2 S2 hr2 => ?_) (fun x S2 hr => by obtain ⟨e, -⟩ := hr; cases e)
        obtain ⟨e2, hW2, hG2⟩ := hr2
        cases e2
        have hF2 := hF.tr hG2
        refine s_ifne (tgt := 45) dX4_offered_40 (by decide) (fun c => absurd c (by decide)) (fun _ => ?_)
        refine s_lconst (v := 0) dX4_offered_43 (by decide) ?_
        exact s_retl dX4_offered_44 rfl (NJ.of (F := f_X4_offered n no c k o r) (x := 0) (by unfold f_X4_offered; rw [if_neg c_6, if_neg c_14, if_pos c_29]) hW2 hF2)
      · skip
        refine s_iconst (v := 0) dX4_offered_32 (by decide) ?_
        refine s_goto (tgt := 37) dX4_offered_33 (by decide) ?_
        refine s_cv1G (n := 49) dX4_offered_37 rfl (kv hW.mm (by decide) rfl) rfl (by decide) (by decide) (by decide) (by decide) (Nat.le_of_ble_eq_true rfl) (m_holds0 hW) (fun r3 S3 hr3 => ?_) (fun x S2 hr => by obtain ⟨e, -⟩ := hr; cases e)
        obtain ⟨e3, hW3, hG3⟩ := hr3
        cases e3
        have hF3 := hF.tr hG3
        refine s_ifne (tgt := 45) dX4_offered_40 (by decide) (fun _ => ?_) (fun c => absurd c (by decide))
        refine s_aloadn dX4_offered_45 rfl rfl ?_
        refine s_getR (n := 77) dX4_offered_46 rfl hW3.mm (fun _ _ _ => rfl) (hW3.rr 16 (by decide)).1 ?_
        refine s_iloadn dX4_offered_49 rfl rfl ?_
        refine s_iald' (j := (ix k)) dX4_offered_50 ((hW3.rr 16 (by decide)).2.1) (inr_ix (isC hcl hn c_6)).symm (by rw [(hW3.rr 16 (by decide)).2.2]; exact (Nat.lt_of_lt_of_le (inr_lt (isC hcl hn c_6) hn) hn)) (by rw [(hW3.rr 16 (by decide)).2.2]; decide) ?_
        rw [hW3.ai 16 (by decide)]
        refine s_ifne (tgt := 85) dX4_offered_51 (by decide) (fun c_51 => ?_) (fun c_51 => ?_)
        · skip
          refine s_lconst (v := 0) dX4_offered_85 (by decide) ?_
          exact s_retl dX4_offered_86 rfl (NJ.of (F := f_X4_offered n no c k o r) (x := 0) (by unfold f_X4_offered; rw [if_neg c_6, if_neg c_14, if_neg c_29, if_neg c_51]) hW3 hF3)
        · skip
          refine s_aloadn dX4_offered_54 rfl rfl ?_
          refine s_aloadn dX4_offered_55 rfl rfl ?_
          refine s_iloadn dX4_offered_56 rfl rfl ?_
          refine s_iloadn dX4_offered_57 rfl rfl ?_
          refine s_cv2R (n := 60) dX4_offered_58 rfl (kv hW3.mm (by decide) rfl) rfl (by decide) (by decide) (by decide) (by decide) (Nat.le_of_ble_eq_true rfl) (by have q := m_X4_cutOf (tm := tm) hW3 (Nat.lt_of_lt_of_le (inr_lt (isC hcl hn c_6) hn) hn) (Nat.lt_of_lt_of_le (inr_lt (isO hco hno c_14) (Nat.le_trans hno (by decide))) hno); rw [← ((inr_ix (isC hcl hn c_6)).symm), ← ((inr_ix (isO hco hno c_14)).symm)] at q; exact q) ?_
          refine s_aloadn dX4_offered_61 rfl rfl ?_
          refine s_getR (n := 86) dX4_offered_62 rfl hW3.mm (fun _ _ _ => rfl) (hW3.rr 25 (by decide)).1 ?_
          refine s_iloadn dX4_offered_65 rfl rfl ?_
          refine s_iald' (j := (ix o)) dX4_offered_66 ((hW3.rr 25 (by decide)).2.1) (inr_ix (isO hco hno c_14)).symm (by rw [(hW3.rr 25 (by decide)).2.2]; exact (Nat.lt_of_lt_of_le (inr_lt (isO hco hno c_14) (Nat.le_trans hno (by decide))) hno)) (by rw [(hW3.rr 25 (by decide)).2.2]; decide) ?_
          rw [hW3.ai 25 (by decide)]
          refine s_aloadn dX4_offered_67 rfl rfl ?_
          refine s_get (v := .int (c.ti 1)) (n := 62) dX4_offered_68 rfl hW3.mm (congrArg Value.int (congrFun hW3.ti 1)) ?_
          refine s_aloadn dX4_offered_71 rfl rfl ?_
          refine s_getR (n := 87) dX4_offered_72 rfl hW3.mm (fun _ _ _ => rfl) (hW3.rr 26 (by decide)).1 ?_
          refine s_iloadn dX4_offered_75 rfl rfl ?_
          refine s_iald' (j := (ix o)) dX4_offered_76 ((hW3.rr 26 (by decide)).2.1) (inr_ix (isO hco hno c_14)).symm (by rw [(hW3.rr 26 (by decide)).2.2]; exact (Nat.lt_of_lt_of_le (inr_lt (isO hco hno c_14) (Nat.le_trans hno (by decide))) hno)) (by rw [(hW3.rr 26 (by decide)).2.2]; decide) ?_
          rw [hW3.ai 26 (by decide)]
          refine s_iadd dX4_offered_77 ?_
          refine s_iloadn dX4_offered_78 rfl rfl ?_
          refine s_cv4R (n := 58) dX4_offered_79 rfl (kv hW3.mm (by decide) rfl) rfl (by decide) (by decide) (by decide) (by decide) (Nat.le_of_ble_eq_true rfl) (m_X4_valueBy hW3 hy (hyo _ (inr_lt (isO hco hno c_14) (Nat.le_trans hno (by decide)))) (rz c_29)) ?_
          refine s_goto (tgt := 86) dX4_offered_82 (by decide) ?_
          exact s_retl dX4_offered_86 rfl (NJ.of (F := f_X4_offered n no c k o r) (x := (f_X4_valueBy (c.pti 0 0) (f_X4_cutOf (c.pti 0 0) (ix k) (ix o)) (c.ai 25 (ix o)) ((c.ti 1) + (c.ai 26 (ix o))) r)) (by unfold f_X4_offered; rw [if_neg c_6, if_neg c_14, if_neg c_29, if_pos c_51]) hW3 hF3)
    · skip
      refine s_iconst (v := 1) dX4_offered_17 (by decide) ?_
      refine s_goto (tgt := 37) dX4_offered_18 (by decide) ?_
      refine s_cv1G (n := 49) dX4_offered_37 rfl (kv hW.mm (by decide) rfl) rfl (by decide) (by decide) (by decide) (by decide) (Nat.le_of_ble_eq_true rfl) (m_holdsP (p := 1) hW (by decide)) (fun r4 S4 hr4 => ?_) (fun x S2 hr => by obtain ⟨e, -⟩ := hr; cases e)
      obtain ⟨e4, hW4, hG4⟩ := hr4
      cases e4
      have hF4 := hF.tr hG4
      refine s_ifne (tgt := 45) dX4_offered_40 (by decide) (fun c => absurd c (by decide)) (fun _ => ?_)
      refine s_lconst (v := 0) dX4_offered_43 (by decide) ?_
      exact s_retl dX4_offered_44 rfl (NJ.of (F := f_X4_offered n no c k o r) (x := 0) (by unfold f_X4_offered; rw [if_neg c_6, if_pos c_14]) hW4 hF4)