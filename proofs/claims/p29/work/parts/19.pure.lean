/-! THE PROGRAM, 1: methods that answer and change nothing -/
theorem kv {S : Sto} {b ci : Nat} {y : String} (h : sK S b = ci) (h6 : ci < 6) (hr : (vwCl[ci]?).map (fun r => r.1) = some y) : sK S b < 6 ∧ (vwCl[sK S b]?).map (fun r => r.1) = some y := by
  rw [h]
  exact ⟨h6, hr⟩
set_option maxRecDepth 20000 in
theorem csl_RX3_30 : Cond.constantLong RX3 30 1000000 ∈ UW := uw (i := 83) rfl rfl
set_option maxRecDepth 20000 in
theorem csl_RX3_146 : Cond.constantLong RX3 146 10000 ∈ UW := uw (i := 158) rfl rfl
set_option maxRecDepth 20000 in
theorem cst_RX3_63 : Cond.constant RX3 63 1000000 ∈ UW := uw (i := 296) rfl rfl
set_option maxRecDepth 20000 in
theorem cst_RJ8_200 : Cond.constant RJ8 200 2147483639 ∈ UW := uw (i := 419) rfl rfl
set_option maxRecDepth 20000 in
theorem cst_RX3_113 : Cond.constant RX3 113 10000000 ∈ UW := uw (i := 500) rfl rfl
set_option maxRecDepth 20000 in
theorem csl_RX3_140 : Cond.constantLong RX3 140 1000 ∈ UW := uw (i := 260) rfl rfl
set_option maxRecDepth 20000 in
theorem csl_RX0_76 : Cond.constantLong RX0 76 500 ∈ UW := uw (i := 713) rfl rfl
set_option maxRecDepth 20000 in
theorem csl_RX0_78 : Cond.constantLong RX0 78 10000 ∈ UW := uw (i := 714) rfl rfl
set_option maxRecDepth 20000 in
theorem csl_RX1_29 : Cond.constantLong RX1 29 100 ∈ UW := uw (i := 567) rfl rfl
set_option maxRecDepth 20000 in
theorem csl_RX1_37 : Cond.constantLong RX1 37 (-1) ∈ UW := uw (i := 759) rfl rfl
set_option maxRecDepth 20000 in
theorem csl_RX3_279 : Cond.constantLong RX3 279 100 ∈ UW := uw (i := 268) rfl rfl
set_option maxRecDepth 20000 in
theorem csl_RX3_331 : Cond.constantLong RX3 331 2 ∈ UW := uw (i := 668) rfl rfl
set_option maxRecDepth 20000 in
theorem csl_RX3_352 : Cond.constantLong RX3 352 120 ∈ UW := uw (i := 269) rfl rfl
def f_J9_floorDiv_f86c9 (x : Int64) (y : Int64) : Int64 := if 0 ≤ (x ^^^ y) then x / y else (if ((x / y) * y) = x then x / y else (x / y) - 1)
set_option maxHeartbeats 4000000 in
theorem m_J9_floorDiv_f86c9 {tm : Nat × Nat} {S : Sto} {x : Int64} {y : Int64} (hy : ¬ y = 0) : Ev tm M_J9_floorDiv_f86c9 [.long x, .long y] S (Rt (some (.long (f_J9_floorDiv_f86c9 x y))) S) := by
  refine ev_in ok_J9_floorDiv_f86c9 (Nat.le_of_ble_eq_true rfl) ?_
  refine s_lloadn dJ9_floorDiv_f86c9_0 rfl rfl ?_
  refine s_lloadn dJ9_floorDiv_f86c9_1 rfl rfl ?_
  refine s_ldiv dJ9_floorDiv_f86c9_2 hy ?_
  refine s_lstore dJ9_floorDiv_f86c9_3 (by decide) ?_
  refine s_lloadn dJ9_floorDiv_f86c9_5 rfl rfl ?_
  refine s_lloadn dJ9_floorDiv_f86c9_6 rfl rfl ?_
  refine s_lxor dJ9_floorDiv_f86c9_7 ?_
  refine s_lconst (v := 0) dJ9_floorDiv_f86c9_8 (by decide) ?_
  refine s_lcge (tgt := 27) dJ9_floorDiv_f86c9_9 dJ9_floorDiv_f86c9_10 (by decide) (fun c_9 => ?_) (fun c_9 => ?_)
  · skip
    refine s_lload dJ9_floorDiv_f86c9_27 rfl ?_
    exact s_retl dJ9_floorDiv_f86c9_29 rfl ⟨congrArg (fun z => Sum.inl (some (Value.long z))) (Eq.symm (by unfold f_J9_floorDiv_f86c9; rw [if_pos c_9])), rfl⟩
  · skip
    refine s_lload dJ9_floorDiv_f86c9_13 rfl ?_
    refine s_lloadn dJ9_floorDiv_f86c9_15 rfl rfl ?_
    refine s_lmul dJ9_floorDiv_f86c9_16 ?_
    refine s_lloadn dJ9_floorDiv_f86c9_17 rfl rfl ?_
    refine s_lceq (tgt := 27) dJ9_floorDiv_f86c9_18 dJ9_floorDiv_f86c9_19 (by decide) (fun c_18 => ?_) (fun c_18 => ?_)
    · skip
      refine s_lload dJ9_floorDiv_f86c9_27 rfl ?_
      exact s_retl dJ9_floorDiv_f86c9_29 rfl ⟨congrArg (fun z => Sum.inl (some (Value.long z))) (Eq.symm (by unfold f_J9_floorDiv_f86c9; rw [if_neg c_9, if_pos c_18])), rfl⟩
    · skip
      refine s_lload dJ9_floorDiv_f86c9_22 rfl ?_
      refine s_lconst (v := 1) dJ9_floorDiv_f86c9_24 (by decide) ?_
      refine s_lsub dJ9_floorDiv_f86c9_25 ?_
      exact s_retl dJ9_floorDiv_f86c9_26 rfl ⟨congrArg (fun z => Sum.inl (some (Value.long z))) (Eq.symm (by unfold f_J9_floorDiv_f86c9; rw [if_neg c_9, if_neg c_18])), rfl⟩
def f_X3_quotient (x : Int64) (y : Int64) : Int64 := if y = 0 then 0 else (f_J9_floorDiv_f86c9 x y)
set_option maxHeartbeats 4000000 in
theorem m_X3_quotient {tm : Nat × Nat} {S : Sto} {x : Int64} {y : Int64}  : Ev tm M_X3_quotient [.long x, .long y] S (Rt (some (.long (f_X3_quotient x y))) S) := by
  refine ev_in ok_X3_quotient (Nat.le_of_ble_eq_true rfl) ?_
  refine s_lloadn dX3_quotient_0 rfl rfl ?_
  refine s_lconst (v := 0) dX3_quotient_1 (by decide) ?_
  refine s_lcne (tgt := 10) dX3_quotient_2 dX3_quotient_3 (by decide) (fun c_2 => ?_) (fun c_2 => ?_)
  · skip
    refine s_lloadn dX3_quotient_10 rfl rfl ?_
    refine s_lloadn dX3_quotient_11 rfl rfl ?_
    refine s_cs2R (n := 0) dX3_quotient_12 rfl rfl (by decide) (by decide) (by decide) (by decide) (Nat.le_of_ble_eq_true rfl) (m_J9_floorDiv_f86c9 c_2) ?_
    exact s_retl dX3_quotient_15 rfl ⟨congrArg (fun z => Sum.inl (some (Value.long z))) (Eq.symm (by unfold f_X3_quotient; rw [if_neg c_2])), rfl⟩
  · skip
    refine s_lconst (v := 0) dX3_quotient_6 (by decide) ?_
    refine s_goto (tgt := 15) dX3_quotient_7 (by decide) ?_
    exact s_retl dX3_quotient_15 rfl ⟨congrArg (fun z => Sum.inl (some (Value.long z))) (Eq.symm (by unfold f_X3_quotient; rw [if_pos c_2])), rfl⟩
def f_X3_couponOf (p : Int64) (q : Int32) : Int64 := (f_X3_quotient (p * ((q : Int32).toInt64)) 10000)
set_option maxHeartbeats 4000000 in
theorem m_X3_couponOf {tm : Nat × Nat} {S : Sto} {p : Int64} {q : Int32}  : Ev tm M_X3_couponOf [.long p, .int q] S (Rt (some (.long (f_X3_couponOf p q))) S) := by
  refine ev_in ok_X3_couponOf (Nat.le_of_ble_eq_true rfl) ?_
  refine s_lloadn dX3_couponOf_0 rfl rfl ?_
  refine s_iloadn dX3_couponOf_1 rfl rfl ?_
  refine s_i2l dX3_couponOf_2 ?_
  refine s_lmul dX3_couponOf_3 ?_
  refine s_ldc2 (v := 10000) dX3_couponOf_4 csl_RX3_146 ?_
  refine s_cs2R (n := 1) dX3_couponOf_7 rfl rfl (by decide) (by decide) (by decide) (by decide) (Nat.le_of_ble_eq_true rfl) (m_X3_quotient) ?_
  exact s_retl dX3_couponOf_10 rfl ⟨congrArg (fun z => Sum.inl (some (Value.long z))) (Eq.symm (by unfold f_X3_couponOf; rfl)), rfl⟩
def f_X3_hasBit (b : Int64) (k : Int32) : Int32 := if ((b >>> ((k : Int32).toInt64 &&& 63)) &&& 1) = 1 then 1 else 0
theorem b_X3_hasBit {b : Int64} {k : Int32} : f_X3_hasBit b k = 0 ∨ f_X3_hasBit b k = 1 := by
  unfold f_X3_hasBit
  repeat' split
  all_goals first | exact Or.inl rfl | exact Or.inr rfl | exact Or.inl ‹_› | decide
set_option maxHeartbeats 4000000 in
theorem m_X3_hasBit {tm : Nat × Nat} {S : Sto} {b : Int64} {k : Int32}  : Ev tm M_X3_hasBit [.long b, .int k] S (Rt (some (.int (f_X3_hasBit b k))) S) := by
  refine ev_in ok_X3_hasBit (Nat.le_of_ble_eq_true rfl) ?_
  refine s_lloadn dX3_hasBit_0 rfl rfl ?_
  refine s_iloadn dX3_hasBit_1 rfl rfl ?_
  refine s_lshr dX3_hasBit_2 ?_
  refine s_lconst (v := 1) dX3_hasBit_3 (by decide) ?_
  refine s_land dX3_hasBit_4 ?_
  refine s_lconst (v := 1) dX3_hasBit_5 (by decide) ?_
  refine s_lcne (tgt := 14) dX3_hasBit_6 dX3_hasBit_7 (by decide) (fun c_6 => ?_) (fun c_6 => ?_)
  · skip
    refine s_iconst (v := 0) dX3_hasBit_14 (by decide) ?_
    exact s_reti dX3_hasBit_15 rfl rfl ⟨congrArg (fun z => Sum.inl (some (Value.int z))) (Eq.symm (by unfold f_X3_hasBit; rw [if_neg c_6])), rfl⟩
  · skip
    refine s_iconst (v := 1) dX3_hasBit_10 (by decide) ?_
    refine s_goto (tgt := 15) dX3_hasBit_11 (by decide) ?_
    exact s_reti dX3_hasBit_15 rfl rfl ⟨congrArg (fun z => Sum.inl (some (Value.int z))) (Eq.symm (by unfold f_X3_hasBit; rw [if_pos c_6])), rfl⟩
def f_X3_withBit (b : Int32) (k : Int32) (z : Int32) : Int32 := if z = 0 then b &&& ((1 <<< (k &&& 31)) ^^^ (-1)) else b ||| (1 <<< (k &&& 31))
set_option maxHeartbeats 4000000 in
theorem m_X3_withBit {tm : Nat × Nat} {S : Sto} {b : Int32} {k : Int32} {z : Int32}  : Ev tm M_X3_withBit [.int b, .int k, .int z] S (Rt (some (.int (f_X3_withBit b k z))) S) := by
  refine ev_in ok_X3_withBit (Nat.le_of_ble_eq_true rfl) ?_
  refine s_iloadn dX3_withBit_0 rfl rfl ?_
  refine s_ifeq (tgt := 12) dX3_withBit_1 (by decide) (fun c_1 => ?_) (fun c_1 => ?_)
  · skip
    refine s_iloadn dX3_withBit_12 rfl rfl ?_
    refine s_iconst (v := 1) dX3_withBit_13 (by decide) ?_
    refine s_iloadn dX3_withBit_14 rfl rfl ?_
    refine s_ishl dX3_withBit_15 ?_
    refine s_iconst (v := (-1)) dX3_withBit_16 (by decide) ?_
    refine s_ixor dX3_withBit_17 ?_
    refine s_iand dX3_withBit_18 ?_
    exact s_reti dX3_withBit_19 rfl rfl ⟨congrArg (fun z => Sum.inl (some (Value.int z))) (Eq.symm (by unfold f_X3_withBit; rw [if_pos c_1])), rfl⟩
  · skip
    refine s_iloadn dX3_withBit_4 rfl rfl ?_
    refine s_iconst (v := 1) dX3_withBit_5 (by decide) ?_
    refine s_iloadn dX3_withBit_6 rfl rfl ?_
    refine s_ishl dX3_withBit_7 ?_
    refine s_ior dX3_withBit_8 ?_
    refine s_goto (tgt := 19) dX3_withBit_9 (by decide) ?_
    exact s_reti dX3_withBit_19 rfl rfl ⟨congrArg (fun z => Sum.inl (some (Value.int z))) (Eq.symm (by unfold f_X3_withBit; rw [if_neg c_1])), rfl⟩
def f_X3_burden (x : Int64) (y : Int64) : Int64 := (f_X3_quotient (x * 1000000) y)
set_option maxHeartbeats 4000000 in
theorem m_X3_burden {tm : Nat × Nat} {S : Sto} {x : Int64} {y : Int64}  : Ev tm M_X3_burden [.long x, .long y] S (Rt (some (.long (f_X3_burden x y))) S) := by
  refine ev_in ok_X3_burden (Nat.le_of_ble_eq_true rfl) ?_
  refine s_lloadn dX3_burden_0 rfl rfl ?_
  refine s_ldc2 (v := 1000000) dX3_burden_1 csl_RX3_30 ?_
  refine s_lmul dX3_burden_4 ?_
  refine s_lloadn dX3_burden_5 rfl rfl ?_
  refine s_cs2R (n := 1) dX3_burden_6 rfl rfl (by decide) (by decide) (by decide) (by decide) (Nat.le_of_ble_eq_true rfl) (m_X3_quotient) ?_
  exact s_retl dX3_burden_9 rfl ⟨congrArg (fun z => Sum.inl (some (Value.long z))) (Eq.symm (by unfold f_X3_burden; rfl)), rfl⟩
def f_X0_isOpen (S : Sto) (a : Nat) : Int32 := if (sI S a 8) = 0 then 1 else 0
theorem b_X0_isOpen {S : Sto} {a : Nat} : f_X0_isOpen S a = 0 ∨ f_X0_isOpen S a = 1 := by
  unfold f_X0_isOpen
  repeat' split
  all_goals first | exact Or.inl rfl | exact Or.inr rfl | exact Or.inl ‹_› | decide
set_option maxHeartbeats 4000000 in
theorem m_X0_isOpen {tm : Nat × Nat} {S : Sto} {a : Nat} (hk : sK S a = 1) : Ev tm M_X0_isOpen [.ref a] S (Rt (some (.int (f_X0_isOpen S a))) S) := by
  refine ev_in ok_X0_isOpen (Nat.le_of_ble_eq_true rfl) ?_
  refine s_aloadn dX0_isOpen_0 rfl rfl ?_
  refine s_getI (n := 33) dX0_isOpen_1 rfl hk (fun _ _ _ => rfl) ?_
  refine s_ifne (tgt := 11) dX0_isOpen_4 (by decide) (fun c_4 => ?_) (fun c_4 => ?_)
  · skip
    refine s_iconst (v := 0) dX0_isOpen_11 (by decide) ?_
    exact s_reti dX0_isOpen_12 rfl rfl ⟨congrArg (fun z => Sum.inl (some (Value.int z))) (Eq.symm (by unfold f_X0_isOpen; rw [if_neg c_4])), rfl⟩
  · skip
    refine s_iconst (v := 1) dX0_isOpen_7 (by decide) ?_
    refine s_goto (tgt := 12) dX0_isOpen_8 (by decide) ?_
    exact s_reti dX0_isOpen_12 rfl rfl ⟨congrArg (fun z => Sum.inl (some (Value.int z))) (Eq.symm (by unfold f_X0_isOpen; rw [if_pos c_4])), rfl⟩
def f_X0_isOfState (S : Sto) (a : Nat) : Int32 := if (sI S a 1) = 0 then 1 else 0
theorem b_X0_isOfState {S : Sto} {a : Nat} : f_X0_isOfState S a = 0 ∨ f_X0_isOfState S a = 1 := by
  unfold f_X0_isOfState
  repeat' split
  all_goals first | exact Or.inl rfl | exact Or.inr rfl | exact Or.inl ‹_› | decide
set_option maxHeartbeats 4000000 in
theorem m_X0_isOfState {tm : Nat × Nat} {S : Sto} {a : Nat} (hk : sK S a = 1) : Ev tm M_X0_isOfState [.ref a] S (Rt (some (.int (f_X0_isOfState S a))) S) := by
  refine ev_in ok_X0_isOfState (Nat.le_of_ble_eq_true rfl) ?_
  refine s_aloadn dX0_isOfState_0 rfl rfl ?_
  refine s_getI (n := 20) dX0_isOfState_1 rfl hk (fun _ _ _ => rfl) ?_
  refine s_ifne (tgt := 11) dX0_isOfState_4 (by decide) (fun c_4 => ?_) (fun c_4 => ?_)
  · skip
    refine s_iconst (v := 0) dX0_isOfState_11 (by decide) ?_
    exact s_reti dX0_isOfState_12 rfl rfl ⟨congrArg (fun z => Sum.inl (some (Value.int z))) (Eq.symm (by unfold f_X0_isOfState; rw [if_neg c_4])), rfl⟩
  · skip
    refine s_iconst (v := 1) dX0_isOfState_7 (by decide) ?_
    refine s_goto (tgt := 12) dX0_isOfState_8 (by decide) ?_
    exact s_reti dX0_isOfState_12 rfl rfl ⟨congrArg (fun z => Sum.inl (some (Value.int z))) (Eq.symm (by unfold f_X0_isOfState; rw [if_pos c_4])), rfl⟩
def f_X0_isVoter (S : Sto) (a : Nat) : Int32 := if (sI S a 0) = 1 then (if (f_X0_isOpen S a) = 0 then 0 else (if (f_X0_isOfState S a) = 0 then 1 else 0)) else 0
theorem b_X0_isVoter {S : Sto} {a : Nat} : f_X0_isVoter S a = 0 ∨ f_X0_isVoter S a = 1 := by
  unfold f_X0_isVoter
  repeat' split
  all_goals first | exact Or.inl rfl | exact Or.inr rfl | exact Or.inl ‹_› | decide
set_option maxHeartbeats 4000000 in
theorem m_X0_isVoter {tm : Nat × Nat} {S : Sto} {a : Nat} (hk : sK S a = 1) : Ev tm M_X0_isVoter [.ref a] S (Rt (some (.int (f_X0_isVoter S a))) S) := by
  refine ev_in ok_X0_isVoter (Nat.le_of_ble_eq_true rfl) ?_
  refine s_aloadn dX0_isVoter_0 rfl rfl ?_
  refine s_getI (n := 18) dX0_isVoter_1 rfl hk (fun _ _ _ => rfl) ?_
  refine s_iconst (v := 1) dX0_isVoter_4 (by decide) ?_
  refine s_icne (tgt := 26) dX0_isVoter_5 (by decide) (fun c_5 => ?_) (fun c_5 => ?_)
  · skip
    refine s_iconst (v := 0) dX0_isVoter_26 (by decide) ?_
    exact s_reti dX0_isVoter_27 rfl rfl ⟨congrArg (fun z => Sum.inl (some (Value.int z))) (Eq.symm (by unfold f_X0_isVoter; rw [if_neg c_5])), rfl⟩
  · skip
    refine s_aloadn dX0_isVoter_8 rfl rfl ?_
    refine s_cv0R (n := 0) dX0_isVoter_9 rfl (kv hk (by decide) rfl) rfl (by decide) (by decide) (by decide) (by decide) (Nat.le_of_ble_eq_true rfl) (m_X0_isOpen hk) ?_
    refine s_ifeq (tgt := 26) dX0_isVoter_12 (by decide) (fun c_12 => ?_) (fun c_12 => ?_)
    · skip
      refine s_iconst (v := 0) dX0_isVoter_26 (by decide) ?_
      exact s_reti dX0_isVoter_27 rfl rfl ⟨congrArg (fun z => Sum.inl (some (Value.int z))) (Eq.symm (by unfold f_X0_isVoter; rw [if_pos c_5, if_pos c_12])), rfl⟩
    · skip
      refine s_aloadn dX0_isVoter_15 rfl rfl ?_
      refine s_cv0R (n := 1) dX0_isVoter_16 rfl (kv hk (by decide) rfl) rfl (by decide) (by decide) (by decide) (by decide) (Nat.le_of_ble_eq_true rfl) (m_X0_isOfState hk) ?_
      refine s_ifne (tgt := 26) dX0_isVoter_19 (by decide) (fun c_19 => ?_) (fun c_19 => ?_)
      · skip
        refine s_iconst (v := 0) dX0_isVoter_26 (by decide) ?_
        exact s_reti dX0_isVoter_27 rfl rfl ⟨congrArg (fun z => Sum.inl (some (Value.int z))) (Eq.symm (by unfold f_X0_isVoter; rw [if_pos c_5, if_neg c_12, if_neg c_19])), rfl⟩
      · skip
        refine s_iconst (v := 1) dX0_isVoter_22 (by decide) ?_
        refine s_goto (tgt := 27) dX0_isVoter_23 (by decide) ?_
        exact s_reti dX0_isVoter_27 rfl rfl ⟨congrArg (fun z => Sum.inl (some (Value.int z))) (Eq.symm (by unfold f_X0_isVoter; rw [if_pos c_5, if_neg c_12, if_pos c_19])), rfl⟩
def f_X0_isOfficial (S : Sto) (a : Nat) : Int32 := if (sI S a 0) = 0 then (if (f_X0_isOpen S a) = 0 then 0 else (if (sI S a 4) = 0 then 1 else 0)) else (if (sI S a 0) = 2 then (if (f_X0_isOpen S a) = 0 then 0 else (if (sI S a 4) = 0 then 1 else 0)) else 0)
theorem b_X0_isOfficial {S : Sto} {a : Nat} : f_X0_isOfficial S a = 0 ∨ f_X0_isOfficial S a = 1 := by
  unfold f_X0_isOfficial
  repeat' split
  all_goals first | exact Or.inl rfl | exact Or.inr rfl | exact Or.inl ‹_› | decide
set_option maxHeartbeats 4000000 in
theorem m_X0_isOfficial {tm : Nat × Nat} {S : Sto} {a : Nat} (hk : sK S a = 1) : Ev tm M_X0_isOfficial [.ref a] S (Rt (some (.int (f_X0_isOfficial S a))) S) := by
  refine ev_in ok_X0_isOfficial (Nat.le_of_ble_eq_true rfl) ?_
  refine s_aloadn dX0_isOfficial_0 rfl rfl ?_
  refine s_getI (n := 18) dX0_isOfficial_1 rfl hk (fun _ _ _ => rfl) ?_
  refine s_ifeq (tgt := 15) dX0_isOfficial_4 (by decide) (fun c_4 => ?_) (fun c_4 => ?_)
  · skip
    refine s_aloadn dX0_isOfficial_15 rfl rfl ?_
    refine s_cv0R (n := 0) dX0_isOfficial_16 rfl (kv hk (by decide) rfl) rfl (by decide) (by decide) (by decide) (by decide) (Nat.le_of_ble_eq_true rfl) (m_X0_isOpen hk) ?_
    refine s_ifeq (tgt := 33) dX0_isOfficial_19 (by decide) (fun c_19 => ?_) (fun c_19 => ?_)
    · skip
      refine s_iconst (v := 0) dX0_isOfficial_33 (by decide) ?_
      exact s_reti dX0_isOfficial_34 rfl rfl ⟨congrArg (fun z => Sum.inl (some (Value.int z))) (Eq.symm (by unfold f_X0_isOfficial; rw [if_pos c_4, if_pos c_19])), rfl⟩
    · skip
      refine s_aloadn dX0_isOfficial_22 rfl rfl ?_
      refine s_getI (n := 26) dX0_isOfficial_23 rfl hk (fun _ _ _ => rfl) ?_
      refine s_ifne (tgt := 33) dX0_isOfficial_26 (by decide) (fun c_26 => ?_) (fun c_26 => ?_)
      · skip
        refine s_iconst (v := 0) dX0_isOfficial_33 (by decide) ?_
        exact s_reti dX0_isOfficial_34 rfl rfl ⟨congrArg (fun z => Sum.inl (some (Value.int z))) (Eq.symm (by unfold f_X0_isOfficial; rw [if_pos c_4, if_neg c_19, if_neg c_26])), rfl⟩
      · skip
        refine s_iconst (v := 1) dX0_isOfficial_29 (by decide) ?_
        refine s_goto (tgt := 34) dX0_isOfficial_30 (by decide) ?_
        exact s_reti dX0_isOfficial_34 rfl rfl ⟨congrArg (fun z => Sum.inl (some (Value.int z))) (Eq.symm (by unfold f_X0_isOfficial; rw [if_pos c_4, if_neg c_19, if_pos c_26])), rfl⟩
  · skip
    refine s_aloadn dX0_isOfficial_7 rfl rfl ?_
    refine s_getI (n := 18) dX0_isOfficial_8 rfl hk (fun _ _ _ => rfl) ?_
    refine s_iconst (v := 2) dX0_isOfficial_11 (by decide) ?_
    refine s_icne (tgt := 33) dX0_isOfficial_12 (by decide) (fun c_12 => ?_) (fun c_12 => ?_)
    · skip
      refine s_iconst (v := 0) dX0_isOfficial_33 (by decide) ?_
      exact s_reti dX0_isOfficial_34 rfl rfl ⟨congrArg (fun z => Sum.inl (some (Value.int z))) (Eq.symm (by unfold f_X0_isOfficial; rw [if_neg c_4, if_neg c_12])), rfl⟩
    · skip
      refine s_aloadn dX0_isOfficial_15 rfl rfl ?_
      refine s_cv0R (n := 0) dX0_isOfficial_16 rfl (kv hk (by decide) rfl) rfl (by decide) (by decide) (by decide) (by decide) (Nat.le_of_ble_eq_true rfl) (m_X0_isOpen hk) ?_
      refine s_ifeq (tgt := 33) dX0_isOfficial_19 (by decide) (fun c_19 => ?_) (fun c_19 => ?_)
      · skip
        refine s_iconst (v := 0) dX0_isOfficial_33 (by decide) ?_
        exact s_reti dX0_isOfficial_34 rfl rfl ⟨congrArg (fun z => Sum.inl (some (Value.int z))) (Eq.symm (by unfold f_X0_isOfficial; rw [if_neg c_4, if_pos c_12, if_pos c_19])), rfl⟩
      · skip
        refine s_aloadn dX0_isOfficial_22 rfl rfl ?_
        refine s_getI (n := 26) dX0_isOfficial_23 rfl hk (fun _ _ _ => rfl) ?_
        refine s_ifne (tgt := 33) dX0_isOfficial_26 (by decide) (fun c_26 => ?_) (fun c_26 => ?_)
        · skip
          refine s_iconst (v := 0) dX0_isOfficial_33 (by decide) ?_
          exact s_reti dX0_isOfficial_34 rfl rfl ⟨congrArg (fun z => Sum.inl (some (Value.int z))) (Eq.symm (by unfold f_X0_isOfficial; rw [if_neg c_4, if_pos c_12, if_neg c_19, if_neg c_26])), rfl⟩
        · skip
          refine s_iconst (v := 1) dX0_isOfficial_29 (by decide) ?_
          refine s_goto (tgt := 34) dX0_isOfficial_30 (by decide) ?_
          exact s_reti dX0_isOfficial_34 rfl rfl ⟨congrArg (fun z => Sum.inl (some (Value.int z))) (Eq.symm (by unfold f_X0_isOfficial; rw [if_neg c_4, if_pos c_12, if_neg c_19, if_pos c_26])), rfl⟩
def f_X0_owed (S : Sto) (a : Nat) : Int64 := (sJ S a 5) + (sJ S a 9)
set_option maxHeartbeats 4000000 in
theorem m_X0_owed {tm : Nat × Nat} {S : Sto} {a : Nat} (hk : sK S a = 1) : Ev tm M_X0_owed [.ref a] S (Rt (some (.long (f_X0_owed S a))) S) := by
  refine ev_in ok_X0_owed (Nat.le_of_ble_eq_true rfl) ?_
  refine s_aloadn dX0_owed_0 rfl rfl ?_
  refine s_getJ (n := 28) dX0_owed_1 rfl hk (fun _ _ _ => rfl) ?_
  refine s_aloadn dX0_owed_4 rfl rfl ?_
  refine s_getJ (n := 35) dX0_owed_5 rfl hk (fun _ _ _ => rfl) ?_
  refine s_ladd dX0_owed_8 ?_
  exact s_retl dX0_owed_9 rfl ⟨congrArg (fun z => Sum.inl (some (Value.long z))) (Eq.symm (by unfold f_X0_owed; rfl)), rfl⟩
def f_X3_votingWeight (S : Sto) (a : Nat) (k : Int32) : Int64 := if (f_X0_isVoter S a) = 0 then 0 else (if k = (-1) then (f_X0_owed S a) else (if k = (sI S a 3) then (f_X0_owed S a) else 0))
set_option maxHeartbeats 4000000 in
theorem m_X3_votingWeight {tm : Nat × Nat} {S : Sto} {a : Nat} {k : Int32} (hk : sK S a = 1) : Ev tm M_X3_votingWeight [.ref a, .int k] S (Rt (some (.long (f_X3_votingWeight S a k))) S) := by
  refine ev_in ok_X3_votingWeight (Nat.le_of_ble_eq_true rfl) ?_
  refine s_aloadn dX3_votingWeight_0 rfl rfl ?_
  refine s_cv0R (n := 31) dX3_votingWeight_1 rfl (kv hk (by decide) rfl) rfl (by decide) (by decide) (by decide) (by decide) (Nat.le_of_ble_eq_true rfl) (m_X0_isVoter hk) ?_
  refine s_ifeq (tgt := 24) dX3_votingWeight_4 (by decide) (fun c_4 => ?_) (fun c_4 => ?_)
  · skip
    refine s_iconst (v := 0) dX3_votingWeight_24 (by decide) ?_
    refine s_istoren dX3_votingWeight_25 rfl (by decide) ?_
    refine s_iloadn dX3_votingWeight_26 rfl rfl ?_
    refine s_ifeq (tgt := 37) dX3_votingWeight_27 (by decide) (fun _ => ?_) (fun c => absurd c (by decide))
    refine s_lconst (v := 0) dX3_votingWeight_37 (by decide) ?_
    exact s_retl dX3_votingWeight_38 rfl ⟨congrArg (fun z => Sum.inl (some (Value.long z))) (Eq.symm (by unfold f_X3_votingWeight; rw [if_pos c_4])), rfl⟩
  · skip
    refine s_iloadn dX3_votingWeight_7 rfl rfl ?_
    refine s_iconst (v := (-1)) dX3_votingWeight_8 (by decide) ?_
    refine s_iceq (tgt := 20) dX3_votingWeight_9 (by decide) (fun c_9 => ?_) (fun c_9 => ?_)
    · skip
      refine s_iconst (v := 1) dX3_votingWeight_20 (by decide) ?_
      refine s_goto (tgt := 25) dX3_votingWeight_21 (by decide) ?_
      refine s_istoren dX3_votingWeight_25 rfl (by decide) ?_
      refine s_iloadn dX3_votingWeight_26 rfl rfl ?_
      refine s_ifeq (tgt := 37) dX3_votingWeight_27 (by decide) (fun c => absurd c (by decide)) (fun _ => ?_)
      refine s_aloadn dX3_votingWeight_30 rfl rfl ?_
      refine s_cv0R (n := 15) dX3_votingWeight_31 rfl (kv hk (by decide) rfl) rfl (by decide) (by decide) (by decide) (by decide) (Nat.le_of_ble_eq_true rfl) (m_X0_owed hk) ?_
      refine s_goto (tgt := 38) dX3_votingWeight_34 (by decide) ?_
      exact s_retl dX3_votingWeight_38 rfl ⟨congrArg (fun z => Sum.inl (some (Value.long z))) (Eq.symm (by unfold f_X3_votingWeight; rw [if_neg c_4, if_pos c_9])), rfl⟩
    · skip
      refine s_iloadn dX3_votingWeight_12 rfl rfl ?_
      refine s_aloadn dX3_votingWeight_13 rfl rfl ?_
      refine s_getI (n := 25) dX3_votingWeight_14 rfl hk (fun _ _ _ => rfl) ?_
      refine s_icne (tgt := 24) dX3_votingWeight_17 (by decide) (fun c_17 => ?_) (fun c_17 => ?_)
      · skip
        refine s_iconst (v := 0) dX3_votingWeight_24 (by decide) ?_
        refine s_istoren dX3_votingWeight_25 rfl (by decide) ?_
        refine s_iloadn dX3_votingWeight_26 rfl rfl ?_
        refine s_ifeq (tgt := 37) dX3_votingWeight_27 (by decide) (fun _ => ?_) (fun c => absurd c (by decide))
        refine s_lconst (v := 0) dX3_votingWeight_37 (by decide) ?_
        exact s_retl dX3_votingWeight_38 rfl ⟨congrArg (fun z => Sum.inl (some (Value.long z))) (Eq.symm (by unfold f_X3_votingWeight; rw [if_neg c_4, if_neg c_9, if_neg c_17])), rfl⟩
      · skip
        refine s_iconst (v := 1) dX3_votingWeight_20 (by decide) ?_
        refine s_goto (tgt := 25) dX3_votingWeight_21 (by decide) ?_
        refine s_istoren dX3_votingWeight_25 rfl (by decide) ?_
        refine s_iloadn dX3_votingWeight_26 rfl rfl ?_
        refine s_ifeq (tgt := 37) dX3_votingWeight_27 (by decide) (fun c => absurd c (by decide)) (fun _ => ?_)
        refine s_aloadn dX3_votingWeight_30 rfl rfl ?_
        refine s_cv0R (n := 15) dX3_votingWeight_31 rfl (kv hk (by decide) rfl) rfl (by decide) (by decide) (by decide) (by decide) (Nat.le_of_ble_eq_true rfl) (m_X0_owed hk) ?_
        refine s_goto (tgt := 38) dX3_votingWeight_34 (by decide) ?_
        exact s_retl dX3_votingWeight_38 rfl ⟨congrArg (fun z => Sum.inl (some (Value.long z))) (Eq.symm (by unfold f_X3_votingWeight; rw [if_neg c_4, if_neg c_9, if_pos c_17])), rfl⟩
def f_X3_isInSeries (S : Sto) (a : Nat) (k : Int32) : Int32 := if (sI S a 0) = 1 then (if (f_X0_isOpen S a) = 0 then 0 else (if (f_X3_hasBit ((k : Int32).toInt64) (sI S a 3)) = 0 then 0 else 1)) else 0
theorem b_X3_isInSeries {S : Sto} {a : Nat} {k : Int32} : f_X3_isInSeries S a k = 0 ∨ f_X3_isInSeries S a k = 1 := by
  unfold f_X3_isInSeries
  repeat' split
  all_goals first | exact Or.inl rfl | exact Or.inr rfl | exact Or.inl ‹_› | exact b_X3_hasBit
set_option maxHeartbeats 4000000 in
theorem m_X3_isInSeries {tm : Nat × Nat} {S : Sto} {a : Nat} {k : Int32} (hk : sK S a = 1) : Ev tm M_X3_isInSeries [.ref a, .int k] S (Rt (some (.int (f_X3_isInSeries S a k))) S) := by
  refine ev_in ok_X3_isInSeries (Nat.le_of_ble_eq_true rfl) ?_
  refine s_aloadn dX3_isInSeries_0 rfl rfl ?_
  refine s_getI (n := 19) dX3_isInSeries_1 rfl hk (fun _ _ _ => rfl) ?_
  refine s_iconst (v := 1) dX3_isInSeries_4 (by decide) ?_
  refine s_icne (tgt := 31) dX3_isInSeries_5 (by decide) (fun c_5 => ?_) (fun c_5 => ?_)
  · skip
    refine s_iconst (v := 0) dX3_isInSeries_31 (by decide) ?_
    exact s_reti dX3_isInSeries_32 rfl rfl ⟨congrArg (fun z => Sum.inl (some (Value.int z))) (Eq.symm (by unfold f_X3_isInSeries; rw [if_neg c_5])), rfl⟩
  · skip
    refine s_aloadn dX3_isInSeries_8 rfl rfl ?_
    refine s_cv0R (n := 13) dX3_isInSeries_9 rfl (kv hk (by decide) rfl) rfl (by decide) (by decide) (by decide) (by decide) (Nat.le_of_ble_eq_true rfl) (m_X0_isOpen hk) ?_
    refine s_ifeq (tgt := 31) dX3_isInSeries_12 (by decide) (fun c_12 => ?_) (fun c_12 => ?_)
    · skip
      refine s_iconst (v := 0) dX3_isInSeries_31 (by decide) ?_
      exact s_reti dX3_isInSeries_32 rfl rfl ⟨congrArg (fun z => Sum.inl (some (Value.int z))) (Eq.symm (by unfold f_X3_isInSeries; rw [if_pos c_5, if_pos c_12])), rfl⟩
    · skip
      refine s_iloadn dX3_isInSeries_15 rfl rfl ?_
      refine s_i2l dX3_isInSeries_16 ?_
      refine s_aloadn dX3_isInSeries_17 rfl rfl ?_
      refine s_getI (n := 25) dX3_isInSeries_18 rfl hk (fun _ _ _ => rfl) ?_
      refine s_cs2R (n := 17) dX3_isInSeries_21 rfl rfl (by decide) (by decide) (by decide) (by decide) (Nat.le_of_ble_eq_true rfl) (m_X3_hasBit) ?_
      refine s_ifeq (tgt := 31) dX3_isInSeries_24 (by decide) (fun c_24 => ?_) (fun c_24 => ?_)
      · skip
        refine s_iconst (v := 0) dX3_isInSeries_31 (by decide) ?_
        exact s_reti dX3_isInSeries_32 rfl rfl ⟨congrArg (fun z => Sum.inl (some (Value.int z))) (Eq.symm (by unfold f_X3_isInSeries; rw [if_pos c_5, if_neg c_12, if_pos c_24])), rfl⟩
      · skip
        refine s_iconst (v := 1) dX3_isInSeries_27 (by decide) ?_
        refine s_goto (tgt := 32) dX3_isInSeries_28 (by decide) ?_
        exact s_reti dX3_isInSeries_32 rfl rfl ⟨congrArg (fun z => Sum.inl (some (Value.int z))) (Eq.symm (by unfold f_X3_isInSeries; rw [if_pos c_5, if_neg c_12, if_neg c_24])), rfl⟩
def f_X1_principalFor (S : Sto) (o : Nat) (a : Nat) : Int64 := (f_X3_quotient ((f_X0_owed S a) * ((100 - (sI S o 0) : Int32).toInt64)) 100)
set_option maxHeartbeats 4000000 in
theorem m_X1_principalFor {tm : Nat × Nat} {S : Sto} {o : Nat} {a : Nat} (ho : sK S o = 2) (hk : sK S a = 1) : Ev tm M_X1_principalFor [.ref o, .ref a] S (Rt (some (.long (f_X1_principalFor S o a))) S) := by
  refine ev_in ok_X1_principalFor (Nat.le_of_ble_eq_true rfl) ?_
  refine s_aloadn dX1_principalFor_0 rfl rfl ?_
  refine s_cv0R (n := 2) dX1_principalFor_1 rfl (kv hk (by decide) rfl) rfl (by decide) (by decide) (by decide) (by decide) (Nat.le_of_ble_eq_true rfl) (m_X0_owed hk) ?_
  refine s_bipush (v := 100) dX1_principalFor_4 (by decide) ?_
  refine s_aloadn dX1_principalFor_6 rfl rfl ?_
  refine s_getI (n := 51) dX1_principalFor_7 rfl ho (fun _ _ _ => rfl) ?_
  refine s_isub dX1_principalFor_10 ?_
  refine s_i2l dX1_principalFor_11 ?_
  refine s_lmul dX1_principalFor_12 ?_
  refine s_ldc2 (v := 100) dX1_principalFor_13 csl_RX1_29 ?_
  refine s_cn2R (n := 3) dX1_principalFor_16 rfl rfl (by decide) (by decide) (by decide) (by decide) (Nat.le_of_ble_eq_true rfl) (m_X3_quotient) ?_
  exact s_retl dX1_principalFor_19 rfl ⟨congrArg (fun z => Sum.inl (some (Value.long z))) (Eq.symm (by unfold f_X1_principalFor; rfl)), rfl⟩
def f_X1_hasYesOf (S : Sto) (o : Nat) (k : Int32) : Int32 := (f_X3_hasBit (sJ S o 3) k)
theorem b_X1_hasYesOf {S : Sto} {o : Nat} {k : Int32} : f_X1_hasYesOf S o k = 0 ∨ f_X1_hasYesOf S o k = 1 := by
  unfold f_X1_hasYesOf
  repeat' split
  all_goals first | exact Or.inl rfl | exact Or.inr rfl | exact Or.inl ‹_› | exact b_X3_hasBit
set_option maxHeartbeats 4000000 in
theorem m_X1_hasYesOf {tm : Nat × Nat} {S : Sto} {o : Nat} {k : Int32} (ho : sK S o = 2) : Ev tm M_X1_hasYesOf [.ref o, .int k] S (Rt (some (.int (f_X1_hasYesOf S o k))) S) := by
  refine ev_in ok_X1_hasYesOf (Nat.le_of_ble_eq_true rfl) ?_
  refine s_aloadn dX1_hasYesOf_0 rfl rfl ?_
  refine s_getJ (n := 56) dX1_hasYesOf_1 rfl ho (fun _ _ _ => rfl) ?_
  refine s_iloadn dX1_hasYesOf_4 rfl rfl ?_
  refine s_cn2R (n := 4) dX1_hasYesOf_5 rfl rfl (by decide) (by decide) (by decide) (by decide) (Nat.le_of_ble_eq_true rfl) (m_X3_hasBit) ?_
  exact s_reti dX1_hasYesOf_8 rfl (nr_bool b_X3_hasBit) ⟨congrArg (fun z => Sum.inl (some (Value.int z))) (Eq.symm (by unfold f_X1_hasYesOf; rfl)), rfl⟩
