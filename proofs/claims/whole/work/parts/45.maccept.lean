/-! THE PROGRAM, 26: the model's accept, review -/
def f_X4_accept (n : Nat) (no : Nat) (c : MC) (k o : Int32) : Int32 × MC := if (f_X4_isClaim c k) = 0 then (0, (c.pti 0 1)) else (if (f_X4_isOffer c o) = 0 then (0, (c.pti 0 1)) else (if (c.ai 8 (ix k)) = 1 then (0, (c.pti 0 2)) else (if (c.ai 16 (ix k)) = 0 then (if (c.ti 7) = 40 then (0, (c.pti 0 2)) else ((f_X4_swaps n (c.pti 0 0) (ix k) (ix o)).1, (f_X4_swaps n (c.pti 0 0) (ix k) (ix o)).2)) else (0, (c.pti 0 2)))))
set_option maxHeartbeats 4000000 in
theorem m_X4_accept {tm : Nat × Nat} {S : Sto} {w : MAd} {c : MC} {n : Nat} {no : Nat} {k o : Int32} (hW : MW S w c) (hcl : c.ti 7 = nI n) (hn : n ≤ 40) (hco : c.ti 23 = nI no) (hno : no ≤ 12) (hKs : ∀ i, i < n → inr (c.ai 8 i) 5) (hBs : ∀ i, i < n → c.ai 15 i = 0 ∨ c.ai 15 i = 1) (hy : 0 ≤ (c.ti 1).toInt ∧ (c.ti 1).toInt ≤ 100) (hdd : ∀ i, i < n → 0 ≤ (c.ai 12 i).toInt ∧ (c.ai 12 i).toInt ≤ 200) (hyo : ∀ j, j < no → 0 ≤ (c.ti 1 + c.ai 26 j).toInt ∧ (c.ti 1 + c.ai 26 j).toInt ≤ 200) (hz : ¬ ((10000 + c.ti 6 : Int32).toInt64) = 0)  : Ev tm M_X4_accept [.ref w.mm, .int k, .int o] S (NI w S (f_X4_accept n no c k o)) := by
  have hF : FrM S S := FrM.rf
  refine ev_in ok_X4_accept (Nat.le_of_ble_eq_true rfl) ?_
  refine s_aloadn dX4_accept_0 rfl rfl ?_
  refine s_iloadn dX4_accept_1 rfl rfl ?_
  refine s_cv1R (n := 51) dX4_accept_2 rfl (kv hW.mm (by decide) rfl) rfl (by decide) (by decide) (by decide) (by decide) (Nat.le_of_ble_eq_true rfl) (m_X4_isClaim hW) ?_
  refine s_ifeq (tgt := 20) dX4_accept_5 (by decide) (fun c_5 => ?_) (fun c_5 => ?_)
  · skip
    refine s_iconst (v := 0) dX4_accept_20 (by decide) ?_
    refine s_istoren dX4_accept_21 rfl (by decide) ?_
    refine s_aloadn dX4_accept_22 rfl rfl ?_
    refine s_iloadn dX4_accept_23 rfl rfl ?_
    refine s_ifne (tgt := 31) dX4_accept_24 (by decide) (fun c => absurd c (by decide)) (fun _ => ?_)
    refine s_iconst (v := 1) dX4_accept_27 (by decide) ?_
    refine s_goto (tgt := 64) dX4_accept_28 (by decide) ?_
    refine s_cv1G (n := 49) dX4_accept_64 rfl (kv hW.mm (by decide) rfl) rfl (by decide) (by decide) (by decide) (by decide) (Nat.le_of_ble_eq_true rfl) (m_holdsP (p := 1) hW (by decide)) (fun r1 S1 hr1 => ?_) (fun x S2 hr => by obtain ⟨e, -⟩ := hr; cases e)
    obtain ⟨e1, hW1, hG1⟩ := hr1
    cases e1
    have hF1 := hF.tr hG1
    refine s_ifne (tgt := 72) dX4_accept_67 (by decide) (fun c => absurd c (by decide)) (fun _ => ?_)
    refine s_iconst (v := 0) dX4_accept_70 (by decide) ?_
    exact s_reti dX4_accept_71 rfl rfl (NI.of (F := f_X4_accept n no c k o) (x := 0) (by unfold f_X4_accept; rw [if_pos c_5]) hW1 hF1)
  · skip
    refine s_aloadn dX4_accept_8 rfl rfl ?_
    refine s_iloadn dX4_accept_9 rfl rfl ?_
    refine s_cv1R (n := 61) dX4_accept_10 rfl (kv hW.mm (by decide) rfl) rfl (by decide) (by decide) (by decide) (by decide) (Nat.le_of_ble_eq_true rfl) (m_X4_isOffer hW) ?_
    refine s_ifeq (tgt := 20) dX4_accept_13 (by decide) (fun c_13 => ?_) (fun c_13 => ?_)
    · skip
      refine s_iconst (v := 0) dX4_accept_20 (by decide) ?_
      refine s_istoren dX4_accept_21 rfl (by decide) ?_
      refine s_aloadn dX4_accept_22 rfl rfl ?_
      refine s_iloadn dX4_accept_23 rfl rfl ?_
      refine s_ifne (tgt := 31) dX4_accept_24 (by decide) (fun c => absurd c (by decide)) (fun _ => ?_)
      refine s_iconst (v := 1) dX4_accept_27 (by decide) ?_
      refine s_goto (tgt := 64) dX4_accept_28 (by decide) ?_
      refine s_cv1G (n := 49) dX4_accept_64 rfl (kv hW.mm (by decide) rfl) rfl (by decide) (by decide) (by decide) (by decide) (Nat.le_of_ble_eq_true rfl) (m_holdsP (p := 1) hW (by decide)) (fun r2 S2 hr2 => ?_) (fun x S2 hr => by obtain ⟨e, -⟩ := hr; cases e)
      obtain ⟨e2, hW2, hG2⟩ := hr2
      cases e2
      have hF2 := hF.tr hG2
      refine s_ifne (tgt := 72) dX4_accept_67 (by decide) (fun c => absurd c (by decide)) (fun _ => ?_)
      refine s_iconst (v := 0) dX4_accept_70 (by decide) ?_
      exact s_reti dX4_accept_71 rfl rfl (NI.of (F := f_X4_accept n no c k o) (x := 0) (by unfold f_X4_accept; rw [if_neg c_5, if_pos c_13]) hW2 hF2)
    · skip
      refine s_iconst (v := 1) dX4_accept_16 (by decide) ?_
      refine s_goto (tgt := 21) dX4_accept_17 (by decide) ?_
      refine s_istoren dX4_accept_21 rfl (by decide) ?_
      refine s_aloadn dX4_accept_22 rfl rfl ?_
      refine s_iloadn dX4_accept_23 rfl rfl ?_
      refine s_ifne (tgt := 31) dX4_accept_24 (by decide) (fun _ => ?_) (fun c => absurd c (by decide))
      refine s_aloadn dX4_accept_31 rfl rfl ?_
      refine s_getR (n := 69) dX4_accept_32 rfl hW.mm (fun _ _ _ => rfl) (hW.rr 8 (by decide)).1 ?_
      refine s_iloadn dX4_accept_35 rfl rfl ?_
      refine s_iald' (j := (ix k)) dX4_accept_36 ((hW.rr 8 (by decide)).2.1) (inr_ix (isC hcl hn c_5)).symm (by rw [(hW.rr 8 (by decide)).2.2]; exact (Nat.lt_of_lt_of_le (inr_lt (isC hcl hn c_5) hn) hn)) (by rw [(hW.rr 8 (by decide)).2.2]; decide) ?_
      rw [hW.ai 8 (by decide)]
      refine s_iconst (v := 1) dX4_accept_37 (by decide) ?_
      refine s_iceq (tgt := 59) dX4_accept_38 (by decide) (fun c_38 => ?_) (fun c_38 => ?_)
      · skip
        refine s_iconst (v := 2) dX4_accept_59 (by decide) ?_
        refine s_goto (tgt := 64) dX4_accept_60 (by decide) ?_
        refine s_cv1G (n := 49) dX4_accept_64 rfl (kv hW.mm (by decide) rfl) rfl (by decide) (by decide) (by decide) (by decide) (Nat.le_of_ble_eq_true rfl) (m_holdsP (p := 2) hW (by decide)) (fun r3 S3 hr3 => ?_) (fun x S2 hr => by obtain ⟨e, -⟩ := hr; cases e)
        obtain ⟨e3, hW3, hG3⟩ := hr3
        cases e3
        have hF3 := hF.tr hG3
        refine s_ifne (tgt := 72) dX4_accept_67 (by decide) (fun c => absurd c (by decide)) (fun _ => ?_)
        refine s_iconst (v := 0) dX4_accept_70 (by decide) ?_
        exact s_reti dX4_accept_71 rfl rfl (NI.of (F := f_X4_accept n no c k o) (x := 0) (by unfold f_X4_accept; rw [if_neg c_5, if_neg c_13, if_pos c_38]) hW3 hF3)
      · skip
        refine s_aloadn dX4_accept_41 rfl rfl ?_
        refine s_getR (n := 77) dX4_accept_42 rfl hW.mm (fun _ _ _ => rfl) (hW.rr 16 (by decide)).1 ?_
        refine s_iloadn dX4_accept_45 rfl rfl ?_
        refine s_iald' (j := (ix k)) dX4_accept_46 ((hW.rr 16 (by decide)).2.1) (inr_ix (isC hcl hn c_5)).symm (by rw [(hW.rr 16 (by decide)).2.2]; exact (Nat.lt_of_lt_of_le (inr_lt (isC hcl hn c_5) hn) hn)) (by rw [(hW.rr 16 (by decide)).2.2]; decide) ?_
        rw [hW.ai 16 (by decide)]
        refine s_ifne (tgt := 59) dX4_accept_47 (by decide) (fun c_47 => ?_) (fun c_47 => ?_)
        · skip
          refine s_iconst (v := 2) dX4_accept_59 (by decide) ?_
          refine s_goto (tgt := 64) dX4_accept_60 (by decide) ?_
          refine s_cv1G (n := 49) dX4_accept_64 rfl (kv hW.mm (by decide) rfl) rfl (by decide) (by decide) (by decide) (by decide) (Nat.le_of_ble_eq_true rfl) (m_holdsP (p := 2) hW (by decide)) (fun r4 S4 hr4 => ?_) (fun x S2 hr => by obtain ⟨e, -⟩ := hr; cases e)
          obtain ⟨e4, hW4, hG4⟩ := hr4
          cases e4
          have hF4 := hF.tr hG4
          refine s_ifne (tgt := 72) dX4_accept_67 (by decide) (fun c => absurd c (by decide)) (fun _ => ?_)
          refine s_iconst (v := 0) dX4_accept_70 (by decide) ?_
          exact s_reti dX4_accept_71 rfl rfl (NI.of (F := f_X4_accept n no c k o) (x := 0) (by unfold f_X4_accept; rw [if_neg c_5, if_neg c_13, if_neg c_38, if_neg c_47]) hW4 hF4)
        · skip
          refine s_aloadn dX4_accept_50 rfl rfl ?_
          refine s_get (v := .int (c.ti 7)) (n := 68) dX4_accept_51 rfl hW.mm (congrArg Value.int (congrFun hW.ti 7)) ?_
          refine s_bipush (v := 40) dX4_accept_54 (by decide) ?_
          refine s_icne (tgt := 63) dX4_accept_56 (by decide) (fun c_56 => ?_) (fun c_56 => ?_)
          · skip
            refine s_iconst (v := 0) dX4_accept_63 (by decide) ?_
            refine s_cv1G (n := 49) dX4_accept_64 rfl (kv hW.mm (by decide) rfl) rfl (by decide) (by decide) (by decide) (by decide) (Nat.le_of_ble_eq_true rfl) (m_holds0 hW) (fun r5 S5 hr5 => ?_) (fun x S2 hr => by obtain ⟨e, -⟩ := hr; cases e)
            obtain ⟨e5, hW5, hG5⟩ := hr5
            cases e5
            have hF5 := hF.tr hG5
            refine s_ifne (tgt := 72) dX4_accept_67 (by decide) (fun _ => ?_) (fun c => absurd c (by decide))
            refine s_aloadn dX4_accept_72 rfl rfl ?_
            refine s_iloadn dX4_accept_73 rfl rfl ?_
            refine s_iloadn dX4_accept_74 rfl rfl ?_
            refine s_cv2G (n := 62) dX4_accept_75 rfl (kv hW5.mm (by decide) rfl) rfl (by decide) (by decide) (by decide) (by decide) (Nat.le_of_ble_eq_true rfl) (by have q : Ev tm M_X4_swaps [.ref w.mm, .int (nI (ix k)), .int (nI (ix o))] S5 _ := m_X4_swaps hW5 (show (c.pti 0 0).ti 7 = nI n from hcl) (n40 hcl hn c_56) (inr_lt (isC hcl hn c_5) hn) (Nat.lt_of_lt_of_le (inr_lt (isO hco hno c_13) (Nat.le_trans hno (by decide))) hno) (hKs _ (inr_lt (isC hcl hn c_5) hn)) hy (hdd _ (inr_lt (isC hcl hn c_5) hn)) (hyo _ (inr_lt (isO hco hno c_13) (Nat.le_trans hno (by decide)))) hz (hBs _ (inr_lt (isC hcl hn c_5) hn)); rw [← ((inr_ix (isC hcl hn c_5)).symm), ← ((inr_ix (isO hco hno c_13)).symm)] at q; exact q) (fun r6 S6 hr6 => ?_) (fun x S2 hr => by obtain ⟨e, -⟩ := hr; cases e)
            obtain ⟨e6, hW6, hG6⟩ := hr6
            cases e6
            have hF6 := hF5.tr hG6
            exact s_reti dX4_accept_78 rfl rfl (NI.of (F := f_X4_accept n no c k o) (x := (f_X4_swaps n (c.pti 0 0) (ix k) (ix o)).1) (by unfold f_X4_accept; rw [if_neg c_5, if_neg c_13, if_neg c_38, if_pos c_47, if_neg c_56]) hW6 hF6)
          · skip
            refine s_iconst (v := 2) dX4_accept_59 (by decide) ?_
            refine s_goto (tgt := 64) dX4_accept_60 (by decide) ?_
            refine s_cv1G (n := 49) dX4_accept_64 rfl (kv hW.mm (by decide) rfl) rfl (by decide) (by decide) (by decide) (by decide) (Nat.le_of_ble_eq_true rfl) (m_holdsP (p := 2) hW (by decide)) (fun r7 S7 hr7 => ?_) (fun x S2 hr => by obtain ⟨e, -⟩ := hr; cases e)
            obtain ⟨e7, hW7, hG7⟩ := hr7
            cases e7
            have hF7 := hF.tr hG7
            refine s_ifne (tgt := 72) dX4_accept_67 (by decide) (fun c => absurd c (by decide)) (fun _ => ?_)
            refine s_iconst (v := 0) dX4_accept_70 (by decide) ?_
            exact s_reti dX4_accept_71 rfl rfl (NI.of (F := f_X4_accept n no c k o) (x := 0) (by unfold f_X4_accept; rw [if_neg c_5, if_neg c_13, if_neg c_38, if_pos c_47, if_pos c_56]) hW7 hF7)
def f_X4_review (n : Nat) (c : MC) : Int32 × MC := if (c.ti 36) = 0 then (0, (c.pti 0 1)) else (if (c.ti 7) = 40 then (0, (c.pti 0 1)) else (if (f_X4_failing n (c.pti 0 0)) = 0 then ((f_X4_failing n (c.pti 0 0)), ((f_X4_adds n (((c.pti 0 0).pti 36 ((c.ti 36) - 1)).ptj 2 ((c.tj 2) + (((c.ti 34) : Int32).toInt64))) 4 7 (((c.ti 34) : Int32).toInt64) 300 5).2.pai 13 n 0)) else ((f_X4_failing n (c.pti 0 0)), (c.pti 0 0))))
set_option maxHeartbeats 4000000 in
theorem m_X4_review {tm : Nat × Nat} {S : Sto} {w : MAd} {c : MC} {n : Nat}  (hW : MW S w c) (hcl : c.ti 7 = nI n) (hn : n ≤ 40) (hL : ∀ i, i < n → inr (c.ai 9 i) 8)  : Ev tm M_X4_review [.ref w.mm] S (NI w S (f_X4_review n c)) := by
  have hF : FrM S S := FrM.rf
  refine ev_in ok_X4_review (Nat.le_of_ble_eq_true rfl) ?_
  refine s_aloadn dX4_review_0 rfl rfl ?_
  refine s_aloadn dX4_review_1 rfl rfl ?_
  refine s_get (v := .int (c.ti 36)) (n := 97) dX4_review_2 rfl hW.mm (congrArg Value.int (congrFun hW.ti 36)) ?_
  refine s_ifeq (tgt := 17) dX4_review_5 (by decide) (fun c_5 => ?_) (fun c_5 => ?_)
  · skip
    refine s_iconst (v := 1) dX4_review_17 (by decide) ?_
    refine s_goto (tgt := 22) dX4_review_18 (by decide) ?_
    refine s_cv1G (n := 49) dX4_review_22 rfl (kv hW.mm (by decide) rfl) rfl (by decide) (by decide) (by decide) (by decide) (Nat.le_of_ble_eq_true rfl) (m_holdsP (p := 1) hW (by decide)) (fun r1 S1 hr1 => ?_) (fun x S2 hr => by obtain ⟨e, -⟩ := hr; cases e)
    obtain ⟨e1, hW1, hG1⟩ := hr1
    cases e1
    have hF1 := hF.tr hG1
    refine s_ifne (tgt := 30) dX4_review_25 (by decide) (fun c => absurd c (by decide)) (fun _ => ?_)
    refine s_iconst (v := 0) dX4_review_28 (by decide) ?_
    exact s_reti dX4_review_29 rfl rfl (NI.of (F := f_X4_review n c) (x := 0) (by unfold f_X4_review; rw [if_pos c_5]) hW1 hF1)
  · skip
    refine s_aloadn dX4_review_8 rfl rfl ?_
    refine s_get (v := .int (c.ti 7)) (n := 68) dX4_review_9 rfl hW.mm (congrArg Value.int (congrFun hW.ti 7)) ?_
    refine s_bipush (v := 40) dX4_review_12 (by decide) ?_
    refine s_icne (tgt := 21) dX4_review_14 (by decide) (fun c_14 => ?_) (fun c_14 => ?_)
    · skip
      refine s_iconst (v := 0) dX4_review_21 (by decide) ?_
      refine s_cv1G (n := 49) dX4_review_22 rfl (kv hW.mm (by decide) rfl) rfl (by decide) (by decide) (by decide) (by decide) (Nat.le_of_ble_eq_true rfl) (m_holds0 hW) (fun r2 S2 hr2 => ?_) (fun x S2 hr => by obtain ⟨e, -⟩ := hr; cases e)
      obtain ⟨e2, hW2, hG2⟩ := hr2
      cases e2
      have hF2 := hF.tr hG2
      refine s_ifne (tgt := 30) dX4_review_25 (by decide) (fun _ => ?_) (fun c => absurd c (by decide))
      refine s_aloadn dX4_review_30 rfl rfl ?_
      refine s_cv0R (n := 70) dX4_review_31 rfl (kv hW2.mm (by decide) rfl) rfl (by decide) (by decide) (by decide) (by decide) (Nat.le_of_ble_eq_true rfl) (m_X4_failing hW2 (show (c.pti 0 0).ti 7 = nI n from hcl) hn hL) ?_
      refine s_istoren dX4_review_34 rfl (by decide) ?_
      refine s_iloadn dX4_review_35 rfl rfl ?_
      refine s_ifne (tgt := 87) dX4_review_36 (by decide) (fun c_36 => ?_) (fun c_36 => ?_)
      · skip
        refine s_iloadn dX4_review_87 rfl rfl ?_
        exact s_reti dX4_review_88 rfl rfl (NI.of (F := f_X4_review n c) (x := (f_X4_failing n (c.pti 0 0))) (by unfold f_X4_review; rw [if_neg c_5, if_neg c_14, if_neg c_36]) hW2 hF2)
      · skip
        refine s_aloadn dX4_review_39 rfl rfl ?_
        refine s_dup dX4_review_40 rfl ?_
        refine s_get (v := .int (c.ti 36)) (n := 97) dX4_review_41 rfl hW2.mm (congrArg Value.int (congrFun hW2.ti 36)) ?_
        refine s_iconst (v := 1) dX4_review_44 (by decide) ?_
        refine s_isub dX4_review_45 ?_
        refine s_putI (n := 97) dX4_review_46 rfl hW2.mm (Or.inl rfl) (fun _ _ _ => rfl) rfl rfl ?_
        have hW3 := hW2.pti (k := 36) (v := (c.ti 36) - 1)
        have hF3 := hF2.uI (a := w.mm) (k := 36) (v := (c.ti 36) - 1) (kd := 5) hW2.mm (by decide)
        refine s_aloadn dX4_review_49 rfl rfl ?_
        refine s_dup dX4_review_50 rfl ?_
        refine s_get (v := .long (c.tj 2)) (n := 63) dX4_review_51 rfl hW3.mm (congrArg Value.long (congrFun hW3.tj 2)) ?_
        refine s_aloadn dX4_review_54 rfl rfl ?_
        refine s_get (v := .int (c.ti 34)) (n := 95) dX4_review_55 rfl hW3.mm (congrArg Value.int (congrFun hW3.ti 34)) ?_
        refine s_i2l dX4_review_58 ?_
        refine s_ladd dX4_review_59 ?_
        refine s_putJ (n := 63) dX4_review_60 rfl hW3.mm (Or.inl rfl) (fun _ _ _ => rfl) rfl rfl ?_
        have hW4 := hW3.ptj (k := 2) (v := (c.tj 2) + (((c.ti 34) : Int32).toInt64))
        have hF4 := hF3.uJ (a := w.mm) (k := 2) (v := (c.tj 2) + (((c.ti 34) : Int32).toInt64)) (kd := 5) hW3.mm (by decide)
        refine s_aloadn dX4_review_63 rfl rfl ?_
        refine s_iconst (v := 4) dX4_review_64 (by decide) ?_
        refine s_bipush (v := 7) dX4_review_65 (by decide) ?_
        refine s_aloadn dX4_review_67 rfl rfl ?_
        refine s_get (v := .int (c.ti 34)) (n := 95) dX4_review_68 rfl hW4.mm (congrArg Value.int (congrFun hW4.ti 34)) ?_
        refine s_i2l dX4_review_71 ?_
        refine s_sipush (v := 300) dX4_review_72 (by decide) ?_
        refine s_iconst (v := 5) dX4_review_75 (by decide) ?_
        refine s_cv5G (n := 50) dX4_review_76 rfl (kv hW4.mm (by decide) rfl) rfl (by decide) (by decide) (by decide) (by decide) (Nat.le_of_ble_eq_true rfl) (m_X4_adds (n := n) hW4 (show (((c.pti 0 0).pti 36 ((c.ti 36) - 1)).ptj 2 ((c.tj 2) + (((c.ti 34) : Int32).toInt64))).ti 7 = nI n from hcl) (n40 hcl hn c_14)) (fun r5 S5 hr5 => ?_) (fun x S2 hr => by obtain ⟨e, -⟩ := hr; cases e)
        obtain ⟨e5, hW5, hG5⟩ := hr5
        cases e5
        have hF5 := hF4.tr hG5
        refine s_istoren dX4_review_79 rfl (by decide) ?_
        refine s_aloadn dX4_review_80 rfl rfl ?_
        refine s_getR (n := 74) dX4_review_81 rfl hW5.mm (fun _ _ _ => rfl) (hW5.rr 13 (by decide)).1 ?_
        refine s_iloadn dX4_review_84 rfl rfl ?_
        refine s_iconst (v := 0) dX4_review_85 (by decide) ?_
        refine s_iast' (j := n) dX4_review_86 ((hW5.rr 13 (by decide)).2.1) (show (f_X4_adds n (((c.pti 0 0).pti 36 ((c.ti 36) - 1)).ptj 2 ((c.tj 2) + (((c.ti 34) : Int32).toInt64))) 4 7 (((c.ti 34) : Int32).toInt64) 300 5).1 = nI n from hcl) (by rw [(hW5.rr 13 (by decide)).2.2]; exact (n40 hcl hn c_14)) (by rw [(hW5.rr 13 (by decide)).2.2]; decide) ?_
        have hW6 := hW5.pai (f := 13) (by decide) (k := n) (v := 0)
        have hF6 := hF5.uI (a := (w.ar 13)) (k := n) (v := 0) (kd := 6) ((hW5.rr 13 (by decide)).2.1) (by decide)
        refine s_iloadn dX4_review_87 rfl rfl ?_
        exact s_reti dX4_review_88 rfl rfl (NI.of (F := f_X4_review n c) (x := (f_X4_failing n (c.pti 0 0))) (by unfold f_X4_review; rw [if_neg c_5, if_neg c_14, if_pos c_36]) hW6 hF6)
    · skip
      refine s_iconst (v := 1) dX4_review_17 (by decide) ?_
      refine s_goto (tgt := 22) dX4_review_18 (by decide) ?_
      refine s_cv1G (n := 49) dX4_review_22 rfl (kv hW.mm (by decide) rfl) rfl (by decide) (by decide) (by decide) (by decide) (Nat.le_of_ble_eq_true rfl) (m_holdsP (p := 1) hW (by decide)) (fun r7 S7 hr7 => ?_) (fun x S2 hr => by obtain ⟨e, -⟩ := hr; cases e)
      obtain ⟨e7, hW7, hG7⟩ := hr7
      cases e7
      have hF7 := hF.tr hG7
      refine s_ifne (tgt := 30) dX4_review_25 (by decide) (fun c => absurd c (by decide)) (fun _ => ?_)
      refine s_iconst (v := 0) dX4_review_28 (by decide) ?_
      exact s_reti dX4_review_29 rfl rfl (NI.of (F := f_X4_review n c) (x := 0) (by unfold f_X4_review; rw [if_neg c_5, if_pos c_14]) hW7 hF7)