/-! THE PROGRAM, 17: what the model asks -/
def f_X4_isIn (v : Int32) (l : Int32) (m : Int32) : Int32 := if v < l then 0 else (if m < v then 0 else 1)
theorem b_X4_isIn {v : Int32} {l : Int32} {m : Int32} : f_X4_isIn v l m = 0 ∨ f_X4_isIn v l m = 1 := by
  unfold f_X4_isIn
  repeat' split
  all_goals first | exact Or.inl rfl | exact Or.inr rfl | exact Or.inl ‹_› | decide
set_option maxHeartbeats 4000000 in
theorem m_X4_isIn {tm : Nat × Nat} {S : Sto} {v : Int32} {l : Int32} {m : Int32}  : Ev tm M_X4_isIn [.int v, .int l, .int m] S (Rt (some (.int (f_X4_isIn v l m))) S) := by
  refine ev_in ok_X4_isIn (Nat.le_of_ble_eq_true rfl) ?_
  refine s_iloadn dX4_isIn_0 rfl rfl ?_
  refine s_iloadn dX4_isIn_1 rfl rfl ?_
  refine s_iclt (tgt := 14) dX4_isIn_2 (by decide) (fun c_2 => ?_) (fun c_2 => ?_)
  · skip
    refine s_iconst (v := 0) dX4_isIn_14 (by decide) ?_
    exact s_reti dX4_isIn_15 rfl rfl ⟨congrArg (fun z => Sum.inl (some (Value.int z))) (Eq.symm (by unfold f_X4_isIn; rw [if_pos c_2])), rfl⟩
  · skip
    refine s_iloadn dX4_isIn_5 rfl rfl ?_
    refine s_iloadn dX4_isIn_6 rfl rfl ?_
    refine s_icgt (tgt := 14) dX4_isIn_7 (by decide) (fun c_7 => ?_) (fun c_7 => ?_)
    · skip
      refine s_iconst (v := 0) dX4_isIn_14 (by decide) ?_
      exact s_reti dX4_isIn_15 rfl rfl ⟨congrArg (fun z => Sum.inl (some (Value.int z))) (Eq.symm (by unfold f_X4_isIn; rw [if_neg c_2, if_pos c_7])), rfl⟩
    · skip
      refine s_iconst (v := 1) dX4_isIn_10 (by decide) ?_
      refine s_goto (tgt := 15) dX4_isIn_11 (by decide) ?_
      exact s_reti dX4_isIn_15 rfl rfl ⟨congrArg (fun z => Sum.inl (some (Value.int z))) (Eq.symm (by unfold f_X4_isIn; rw [if_neg c_2, if_neg c_7])), rfl⟩
def f_X4_isKind (v : Int32) : Int32 := (f_X4_isIn v 0 4)
theorem b_X4_isKind {v : Int32} : f_X4_isKind v = 0 ∨ f_X4_isKind v = 1 := by
  unfold f_X4_isKind
  repeat' split
  all_goals first | exact Or.inl rfl | exact Or.inr rfl | exact Or.inl ‹_› | exact b_X4_isIn
set_option maxHeartbeats 4000000 in
theorem m_X4_isKind {tm : Nat × Nat} {S : Sto} {v : Int32}  : Ev tm M_X4_isKind [.int v] S (Rt (some (.int (f_X4_isKind v))) S) := by
  refine ev_in ok_X4_isKind (Nat.le_of_ble_eq_true rfl) ?_
  refine s_iloadn dX4_isKind_0 rfl rfl ?_
  refine s_iconst (v := 0) dX4_isKind_1 (by decide) ?_
  refine s_iconst (v := 4) dX4_isKind_2 (by decide) ?_
  refine s_cs3R (n := 23) dX4_isKind_3 rfl rfl (by decide) (by decide) (by decide) (by decide) (Nat.le_of_ble_eq_true rfl) (m_X4_isIn) ?_
  exact s_reti dX4_isKind_6 rfl (nr_bool b_X4_isIn) ⟨congrArg (fun z => Sum.inl (some (Value.int z))) (Eq.symm (by unfold f_X4_isKind; rfl)), rfl⟩
def f_X4_down (v : Int64) (b : Int64) : Int64 := if 0 ≤ v then v / b else (if (v - v / b * b) = 0 then v / b else (v / b) - 1)
set_option maxHeartbeats 4000000 in
theorem m_X4_down {tm : Nat × Nat} {S : Sto} {v : Int64} {b : Int64} (hb : ¬ b = 0) : Ev tm M_X4_down [.long v, .long b] S (Rt (some (.long (f_X4_down v b))) S) := by
  refine ev_in ok_X4_down (Nat.le_of_ble_eq_true rfl) ?_
  refine s_lloadn dX4_down_0 rfl rfl ?_
  refine s_lconst (v := 0) dX4_down_1 (by decide) ?_
  refine s_lcge (tgt := 14) dX4_down_2 dX4_down_3 (by decide) (fun c_2 => ?_) (fun c_2 => ?_)
  · skip
    refine s_lloadn dX4_down_14 rfl rfl ?_
    refine s_lloadn dX4_down_15 rfl rfl ?_
    refine s_ldiv dX4_down_16 hb ?_
    refine s_goto (tgt := 25) dX4_down_17 (by decide) ?_
    exact s_retl dX4_down_25 rfl ⟨congrArg (fun z => Sum.inl (some (Value.long z))) (Eq.symm (by unfold f_X4_down; rw [if_pos c_2])), rfl⟩
  · skip
    refine s_lloadn dX4_down_6 rfl rfl ?_
    refine s_lloadn dX4_down_7 rfl rfl ?_
    refine s_lrem dX4_down_8 hb ?_
    refine s_lconst (v := 0) dX4_down_9 (by decide) ?_
    refine s_lcne (tgt := 20) dX4_down_10 dX4_down_11 (by decide) (fun c_10 => ?_) (fun c_10 => ?_)
    · skip
      refine s_lloadn dX4_down_20 rfl rfl ?_
      refine s_lloadn dX4_down_21 rfl rfl ?_
      refine s_ldiv dX4_down_22 hb ?_
      refine s_lconst (v := 1) dX4_down_23 (by decide) ?_
      refine s_lsub dX4_down_24 ?_
      exact s_retl dX4_down_25 rfl ⟨congrArg (fun z => Sum.inl (some (Value.long z))) (Eq.symm (by unfold f_X4_down; rw [if_neg c_2, if_neg c_10])), rfl⟩
    · skip
      refine s_lloadn dX4_down_14 rfl rfl ?_
      refine s_lloadn dX4_down_15 rfl rfl ?_
      refine s_ldiv dX4_down_16 hb ?_
      refine s_goto (tgt := 25) dX4_down_17 (by decide) ?_
      exact s_retl dX4_down_25 rfl ⟨congrArg (fun z => Sum.inl (some (Value.long z))) (Eq.symm (by unfold f_X4_down; rw [if_neg c_2, if_pos c_10])), rfl⟩
theorem vix {j k : Nat} : 40 * nI j + nI k = nI (40 * j + k) := by
  show Int32.ofNat 40 * Int32.ofNat j + Int32.ofNat k = Int32.ofNat (40 * j + k)
  rw [Int32.ofNat_add, Int32.ofNat_mul]
theorem vb_s {d y : Int32} (hy : 0 ≤ y.toInt ∧ y.toInt ≤ 100) (hd : 0 ≤ d.toInt ∧ d.toInt ≤ 200) : (d - y).toInt = d.toInt - y.toInt := by
  rw [Int32.toInt_sub]
  apply Int.bmod_eq_of_le <;> omega
theorem vb_k {d : Int32} {k : Nat} (hd : 0 ≤ d.toInt ∧ d.toInt ≤ 200) (hk : k ≤ 200) : (d - nI k).toInt = d.toInt - k := by
  rw [Int32.toInt_sub, nI_toInt (by omega)]
  apply Int.bmod_eq_of_le <;> omega
theorem vb_z {d y : Int32} (hy : 0 ≤ y.toInt ∧ y.toInt ≤ 100) (hd : 0 ≤ d.toInt ∧ d.toInt ≤ 200) : d - nI (ix (d - y)) ≤ y := by
  have h1 := @ix_le (d - y)
  rw [vb_s hy hd] at h1
  rw [Int32.le_iff_toInt_le, vb_k hd (by omega)]
  omega
theorem vb_m {d y : Int32} {k : Nat} (hy : 0 ≤ y.toInt ∧ y.toInt ≤ 100) (hd : 0 ≤ d.toInt ∧ d.toInt ≤ 200) (h : k < ix (d - y)) : ¬ d - nI k ≤ y := by
  have h1 := @ix_le (d - y)
  rw [vb_s hy hd] at h1
  rw [Int32.le_iff_toInt_le, vb_k hd (by omega)]
  omega
def f_X4_owed (c : MC) (k : Nat) : Int64 := (c.aj 10 k) + (c.aj 17 k)
set_option maxHeartbeats 4000000 in
theorem m_X4_owed {tm : Nat × Nat} {S : Sto} {w : MAd} {c : MC} {k : Nat} (hW : MW S w c) (hk : k < 40) : Ev tm M_X4_owed [.ref w.mm, .int (nI k)] S (Rt (some (.long (f_X4_owed c k))) S) := by
  have hF : FrM S S := FrM.rf
  refine ev_in ok_X4_owed (Nat.le_of_ble_eq_true rfl) ?_
  refine s_aloadn dX4_owed_0 rfl rfl ?_
  refine s_getR (n := 71) dX4_owed_1 rfl hW.mm (fun _ _ _ => rfl) (hW.rr 10 (by decide)).1 ?_
  refine s_iloadn dX4_owed_4 rfl rfl ?_
  refine s_lald' (j := k) dX4_owed_5 (Or.inr (Or.inl (hW.rr 10 (by decide)).2.1)) rfl (by rw [(hW.rr 10 (by decide)).2.2]; exact hk) (by rw [(hW.rr 10 (by decide)).2.2]; decide) ?_
  rw [hW.aj 10 (by decide)]
  refine s_aloadn dX4_owed_6 rfl rfl ?_
  refine s_getR (n := 78) dX4_owed_7 rfl hW.mm (fun _ _ _ => rfl) (hW.rr 17 (by decide)).1 ?_
  refine s_iloadn dX4_owed_10 rfl rfl ?_
  refine s_lald' (j := k) dX4_owed_11 (Or.inr (Or.inl (hW.rr 17 (by decide)).2.1)) rfl (by rw [(hW.rr 17 (by decide)).2.2]; exact hk) (by rw [(hW.rr 17 (by decide)).2.2]; decide) ?_
  rw [hW.aj 17 (by decide)]
  refine s_ladd dX4_owed_12 ?_
  exact s_retl dX4_owed_13 rfl ⟨congrArg (fun z => Sum.inl (some (Value.long z))) (Eq.symm (by unfold f_X4_owed; rfl)), rfl⟩
def f_X4_isVoter (c : MC) (k : Nat) : Int32 := if (c.ai 8 k) = 1 then (if (c.ai 9 k) = 0 then 0 else (if (c.ai 16 k) = 0 then 1 else 0)) else 0
theorem b_X4_isVoter {c : MC} {k : Nat} : f_X4_isVoter c k = 0 ∨ f_X4_isVoter c k = 1 := by
  unfold f_X4_isVoter
  repeat' split
  all_goals first | decide | exact Or.inl rfl | exact Or.inr rfl | exact Or.inl ‹_›
set_option maxHeartbeats 4000000 in
theorem m_X4_isVoter {tm : Nat × Nat} {S : Sto} {w : MAd} {c : MC} {k : Nat} (hW : MW S w c) (hk : k < 40) : Ev tm M_X4_isVoter [.ref w.mm, .int (nI k)] S (Rt (some (.int (f_X4_isVoter c k))) S) := by
  have hF : FrM S S := FrM.rf
  refine ev_in ok_X4_isVoter (Nat.le_of_ble_eq_true rfl) ?_
  refine s_aloadn dX4_isVoter_0 rfl rfl ?_
  refine s_getR (n := 69) dX4_isVoter_1 rfl hW.mm (fun _ _ _ => rfl) (hW.rr 8 (by decide)).1 ?_
  refine s_iloadn dX4_isVoter_4 rfl rfl ?_
  refine s_iald' (j := k) dX4_isVoter_5 ((hW.rr 8 (by decide)).2.1) rfl (by rw [(hW.rr 8 (by decide)).2.2]; exact hk) (by rw [(hW.rr 8 (by decide)).2.2]; decide) ?_
  rw [hW.ai 8 (by decide)]
  refine s_iconst (v := 1) dX4_isVoter_6 (by decide) ?_
  refine s_icne (tgt := 32) dX4_isVoter_7 (by decide) (fun c_7 => ?_) (fun c_7 => ?_)
  · skip
    refine s_iconst (v := 0) dX4_isVoter_32 (by decide) ?_
    exact s_reti dX4_isVoter_33 rfl rfl ⟨congrArg (fun z => Sum.inl (some (Value.int z))) (Eq.symm (by unfold f_X4_isVoter; rw [if_neg c_7])), rfl⟩
  · skip
    refine s_aloadn dX4_isVoter_10 rfl rfl ?_
    refine s_getR (n := 70) dX4_isVoter_11 rfl hW.mm (fun _ _ _ => rfl) (hW.rr 9 (by decide)).1 ?_
    refine s_iloadn dX4_isVoter_14 rfl rfl ?_
    refine s_iald' (j := k) dX4_isVoter_15 ((hW.rr 9 (by decide)).2.1) rfl (by rw [(hW.rr 9 (by decide)).2.2]; exact hk) (by rw [(hW.rr 9 (by decide)).2.2]; decide) ?_
    rw [hW.ai 9 (by decide)]
    refine s_ifeq (tgt := 32) dX4_isVoter_16 (by decide) (fun c_16 => ?_) (fun c_16 => ?_)
    · skip
      refine s_iconst (v := 0) dX4_isVoter_32 (by decide) ?_
      exact s_reti dX4_isVoter_33 rfl rfl ⟨congrArg (fun z => Sum.inl (some (Value.int z))) (Eq.symm (by unfold f_X4_isVoter; rw [if_pos c_7, if_pos c_16])), rfl⟩
    · skip
      refine s_aloadn dX4_isVoter_19 rfl rfl ?_
      refine s_getR (n := 77) dX4_isVoter_20 rfl hW.mm (fun _ _ _ => rfl) (hW.rr 16 (by decide)).1 ?_
      refine s_iloadn dX4_isVoter_23 rfl rfl ?_
      refine s_iald' (j := k) dX4_isVoter_24 ((hW.rr 16 (by decide)).2.1) rfl (by rw [(hW.rr 16 (by decide)).2.2]; exact hk) (by rw [(hW.rr 16 (by decide)).2.2]; decide) ?_
      rw [hW.ai 16 (by decide)]
      refine s_ifne (tgt := 32) dX4_isVoter_25 (by decide) (fun c_25 => ?_) (fun c_25 => ?_)
      · skip
        refine s_iconst (v := 0) dX4_isVoter_32 (by decide) ?_
        exact s_reti dX4_isVoter_33 rfl rfl ⟨congrArg (fun z => Sum.inl (some (Value.int z))) (Eq.symm (by unfold f_X4_isVoter; rw [if_pos c_7, if_neg c_16, if_neg c_25])), rfl⟩
      · skip
        refine s_iconst (v := 1) dX4_isVoter_28 (by decide) ?_
        refine s_goto (tgt := 33) dX4_isVoter_29 (by decide) ?_
        exact s_reti dX4_isVoter_33 rfl rfl ⟨congrArg (fun z => Sum.inl (some (Value.int z))) (Eq.symm (by unfold f_X4_isVoter; rw [if_pos c_7, if_neg c_16, if_pos c_25])), rfl⟩
def g_X4_debt (c : MC) : Nat → Int64
  | 0 => 0
  | k + 1 => if (c.ai 16 k) = 0 then (if (c.ai 15 k) = 0 then (if (c.ai 9 k) = 0 then (g_X4_debt c k) + 0 else (g_X4_debt c k) + (f_X4_owed c k)) else (g_X4_debt c k) + 0) else (g_X4_debt c k) + 0
theorem g_X4_debt_s {c : MC} {k : Nat} : g_X4_debt c (k + 1) = (if (c.ai 16 k) = 0 then (if (c.ai 15 k) = 0 then (if (c.ai 9 k) = 0 then (g_X4_debt c k) + 0 else (g_X4_debt c k) + (f_X4_owed c k)) else (g_X4_debt c k) + 0) else (g_X4_debt c k) + 0 : Int64) := rfl
def f_X4_debt (n : Nat) (c : MC) : Int64 := (g_X4_debt c n)
set_option maxHeartbeats 4000000 in
theorem m_X4_debt {tm : Nat × Nat} {S : Sto} {w : MAd} {c : MC} {n : Nat} (hW : MW S w c) (hcl : c.ti 7 = nI n) (hn : n ≤ 40) : Ev tm M_X4_debt [.ref w.mm] S (Rt (some (.long (f_X4_debt n c))) S) := by
  have hF : FrM S S := FrM.rf
  refine ev_in ok_X4_debt (Nat.le_of_ble_eq_true rfl) ?_
  refine s_lconst (v := 0) dX4_debt_0 (by decide) ?_
  refine s_lstoren dX4_debt_1 rfl (by decide) ?_
  refine s_iconst (v := 0) dX4_debt_2 (by decide) ?_
  refine s_istoren dX4_debt_3 rfl (by decide) ?_
  have LP_4 : ∀ (d k : Nat), k + d = n → Wp (Ev tm) tm M_X4_debt (Rt (some (.long (f_X4_debt n c))) S) 4 [(0, .ref w.mm), (1, .long (g_X4_debt c k)), (3, .int (nI k))] [] 0 0 S := by
    intro d
    induction d with
    | zero =>
      intro k hkd
      have hkn : k = n := by omega
      subst hkn
      refine s_iloadn dX4_debt_4 rfl rfl ?_
      refine s_aloadn dX4_debt_5 rfl rfl ?_
      refine s_get (v := .int (c.ti 7)) (n := 68) dX4_debt_6 rfl hW.mm (congrArg Value.int (congrFun hW.ti 7)) ?_
      refine s_icge (tgt := 57) dX4_debt_9 (by decide) (fun _ => ?_) (fun c => absurd (by rw [hcl]; exact Int32.le_refl _) c)
      refine s_lloadn dX4_debt_57 rfl rfl ?_
      exact s_retl dX4_debt_58 rfl ⟨congrArg (fun z => Sum.inl (some (Value.long z))) (Eq.symm (by unfold f_X4_debt; rfl)), rfl⟩
    | succ d ih =>
      intro k hkd
      have hlt : k < n := by omega
      refine s_iloadn dX4_debt_4 rfl rfl ?_
      refine s_aloadn dX4_debt_5 rfl rfl ?_
      refine s_get (v := .int (c.ti 7)) (n := 68) dX4_debt_6 rfl hW.mm (congrArg Value.int (congrFun hW.ti 7)) ?_
      refine s_icge (tgt := 57) dX4_debt_9 (by decide) (fun c => absurd c (by rw [hcl]; exact nI_ge hlt (by omega))) (fun _ => ?_)
      refine s_lloadn dX4_debt_12 rfl rfl ?_
      refine s_aloadn dX4_debt_13 rfl rfl ?_
      refine s_getR (n := 77) dX4_debt_14 rfl hW.mm (fun _ _ _ => rfl) (hW.rr 16 (by decide)).1 ?_
      refine s_iloadn dX4_debt_17 rfl rfl ?_
      refine s_iald' (j := k) dX4_debt_18 ((hW.rr 16 (by decide)).2.1) rfl (by rw [(hW.rr 16 (by decide)).2.2]; exact (Nat.lt_of_lt_of_le hlt hn)) (by rw [(hW.rr 16 (by decide)).2.2]; decide) ?_
      rw [hW.ai 16 (by decide)]
      refine s_ifne (tgt := 48) dX4_debt_19 (by decide) (fun c_19 => ?_) (fun c_19 => ?_)
      · skip
        refine s_lconst (v := 0) dX4_debt_48 (by decide) ?_
        refine s_ladd dX4_debt_49 ?_
        refine s_lstoren dX4_debt_50 rfl (by decide) ?_
        refine s_iinc (v := (nI k) + 1) dX4_debt_51 rfl (by rfl) (by decide) ?_
        refine s_goto (tgt := 4) dX4_debt_54 (by decide) ?_
        exact s_sub (lo' := [(0, .ref w.mm), (1, .long (g_X4_debt c (k + 1))), (3, .int (nI (k + 1)))]) (List.forall_mem_cons.mpr ⟨rfl, List.forall_mem_cons.mpr ⟨congrArg (fun z => some (Value.long z)) (Eq.symm (by rw [g_X4_debt_s, if_neg c_19])), List.forall_mem_cons.mpr ⟨congrArg (fun z => some (Value.int z)) (nI_1 k), fun _ h => absurd h List.not_mem_nil⟩⟩⟩) (Nat.zero_le _) (Nat.zero_le _) (ih (k + 1) (by omega))
      · skip
        refine s_aloadn dX4_debt_22 rfl rfl ?_
        refine s_getR (n := 76) dX4_debt_23 rfl hW.mm (fun _ _ _ => rfl) (hW.rr 15 (by decide)).1 ?_
        refine s_iloadn dX4_debt_26 rfl rfl ?_
        refine s_zald' (j := k) dX4_debt_27 ((hW.rr 15 (by decide)).2.1) rfl (by rw [(hW.rr 15 (by decide)).2.2]; exact (Nat.lt_of_lt_of_le hlt hn)) (by rw [(hW.rr 15 (by decide)).2.2]; decide) ?_
        rw [hW.ai 15 (by decide)]
        refine s_ifne (tgt := 48) dX4_debt_28 (by decide) (fun c_28 => ?_) (fun c_28 => ?_)
        · skip
          refine s_lconst (v := 0) dX4_debt_48 (by decide) ?_
          refine s_ladd dX4_debt_49 ?_
          refine s_lstoren dX4_debt_50 rfl (by decide) ?_
          refine s_iinc (v := (nI k) + 1) dX4_debt_51 rfl (by rfl) (by decide) ?_
          refine s_goto (tgt := 4) dX4_debt_54 (by decide) ?_
          exact s_sub (lo' := [(0, .ref w.mm), (1, .long (g_X4_debt c (k + 1))), (3, .int (nI (k + 1)))]) (List.forall_mem_cons.mpr ⟨rfl, List.forall_mem_cons.mpr ⟨congrArg (fun z => some (Value.long z)) (Eq.symm (by rw [g_X4_debt_s, if_pos c_19, if_neg c_28])), List.forall_mem_cons.mpr ⟨congrArg (fun z => some (Value.int z)) (nI_1 k), fun _ h => absurd h List.not_mem_nil⟩⟩⟩) (Nat.zero_le _) (Nat.zero_le _) (ih (k + 1) (by omega))
        · skip
          refine s_aloadn dX4_debt_31 rfl rfl ?_
          refine s_getR (n := 70) dX4_debt_32 rfl hW.mm (fun _ _ _ => rfl) (hW.rr 9 (by decide)).1 ?_
          refine s_iloadn dX4_debt_35 rfl rfl ?_
          refine s_iald' (j := k) dX4_debt_36 ((hW.rr 9 (by decide)).2.1) rfl (by rw [(hW.rr 9 (by decide)).2.2]; exact (Nat.lt_of_lt_of_le hlt hn)) (by rw [(hW.rr 9 (by decide)).2.2]; decide) ?_
          rw [hW.ai 9 (by decide)]
          refine s_ifeq (tgt := 48) dX4_debt_37 (by decide) (fun c_37 => ?_) (fun c_37 => ?_)
          · skip
            refine s_lconst (v := 0) dX4_debt_48 (by decide) ?_
            refine s_ladd dX4_debt_49 ?_
            refine s_lstoren dX4_debt_50 rfl (by decide) ?_
            refine s_iinc (v := (nI k) + 1) dX4_debt_51 rfl (by rfl) (by decide) ?_
            refine s_goto (tgt := 4) dX4_debt_54 (by decide) ?_
            exact s_sub (lo' := [(0, .ref w.mm), (1, .long (g_X4_debt c (k + 1))), (3, .int (nI (k + 1)))]) (List.forall_mem_cons.mpr ⟨rfl, List.forall_mem_cons.mpr ⟨congrArg (fun z => some (Value.long z)) (Eq.symm (by rw [g_X4_debt_s, if_pos c_19, if_pos c_28, if_pos c_37])), List.forall_mem_cons.mpr ⟨congrArg (fun z => some (Value.int z)) (nI_1 k), fun _ h => absurd h List.not_mem_nil⟩⟩⟩) (Nat.zero_le _) (Nat.zero_le _) (ih (k + 1) (by omega))
          · skip
            refine s_aloadn dX4_debt_40 rfl rfl ?_
            refine s_iloadn dX4_debt_41 rfl rfl ?_
            refine s_cv1R (n := 52) dX4_debt_42 rfl (kv hW.mm (by decide) rfl) rfl (by decide) (by decide) (by decide) (by decide) (Nat.le_of_ble_eq_true rfl) (m_X4_owed hW (Nat.lt_of_lt_of_le hlt hn)) ?_
            refine s_goto (tgt := 49) dX4_debt_45 (by decide) ?_
            refine s_ladd dX4_debt_49 ?_
            refine s_lstoren dX4_debt_50 rfl (by decide) ?_
            refine s_iinc (v := (nI k) + 1) dX4_debt_51 rfl (by rfl) (by decide) ?_
            refine s_goto (tgt := 4) dX4_debt_54 (by decide) ?_
            exact s_sub (lo' := [(0, .ref w.mm), (1, .long (g_X4_debt c (k + 1))), (3, .int (nI (k + 1)))]) (List.forall_mem_cons.mpr ⟨rfl, List.forall_mem_cons.mpr ⟨congrArg (fun z => some (Value.long z)) (Eq.symm (by rw [g_X4_debt_s, if_pos c_19, if_pos c_28, if_neg c_37])), List.forall_mem_cons.mpr ⟨congrArg (fun z => some (Value.int z)) (nI_1 k), fun _ h => absurd h List.not_mem_nil⟩⟩⟩) (Nat.zero_le _) (Nat.zero_le _) (ih (k + 1) (by omega))
  exact s_sub (lo' := [(0, .ref w.mm), (1, .long (g_X4_debt c 0)), (3, .int (nI 0))]) (List.forall_mem_cons.mpr ⟨rfl, List.forall_mem_cons.mpr ⟨rfl, List.forall_mem_cons.mpr ⟨rfl, fun _ h => absurd h List.not_mem_nil⟩⟩⟩) (Nat.zero_le _) (Nat.zero_le _) (LP_4 n 0 (by omega))
def f_X4_isClaim (c : MC) (v : Int32) : Int32 := (f_X4_isIn v 0 ((c.ti 7) - 1))
theorem b_X4_isClaim {c : MC} {v : Int32} : f_X4_isClaim c v = 0 ∨ f_X4_isClaim c v = 1 := by
  unfold f_X4_isClaim
  repeat' split
  all_goals first | exact b_X4_isIn | exact Or.inl rfl | exact Or.inr rfl | exact Or.inl ‹_›
set_option maxHeartbeats 4000000 in
theorem m_X4_isClaim {tm : Nat × Nat} {S : Sto} {w : MAd} {c : MC} {v : Int32} (hW : MW S w c)  : Ev tm M_X4_isClaim [.ref w.mm, .int v] S (Rt (some (.int (f_X4_isClaim c v))) S) := by
  have hF : FrM S S := FrM.rf
  refine ev_in ok_X4_isClaim (Nat.le_of_ble_eq_true rfl) ?_
  refine s_iloadn dX4_isClaim_0 rfl rfl ?_
  refine s_iconst (v := 0) dX4_isClaim_1 (by decide) ?_
  refine s_aloadn dX4_isClaim_2 rfl rfl ?_
  refine s_get (v := .int (c.ti 7)) (n := 68) dX4_isClaim_3 rfl hW.mm (congrArg Value.int (congrFun hW.ti 7)) ?_
  refine s_iconst (v := 1) dX4_isClaim_6 (by decide) ?_
  refine s_isub dX4_isClaim_7 ?_
  refine s_cs3R (n := 23) dX4_isClaim_8 rfl rfl (by decide) (by decide) (by decide) (by decide) (Nat.le_of_ble_eq_true rfl) (m_X4_isIn) ?_
  exact s_reti dX4_isClaim_11 rfl (nr_bool b_X4_isIn) ⟨congrArg (fun z => Sum.inl (some (Value.int z))) (Eq.symm (by unfold f_X4_isClaim; rfl)), rfl⟩
def f_X4_isOffer (c : MC) (v : Int32) : Int32 := (f_X4_isIn v 0 ((c.ti 23) - 1))
theorem b_X4_isOffer {c : MC} {v : Int32} : f_X4_isOffer c v = 0 ∨ f_X4_isOffer c v = 1 := by
  unfold f_X4_isOffer
  repeat' split
  all_goals first | exact b_X4_isIn | exact Or.inl rfl | exact Or.inr rfl | exact Or.inl ‹_›
set_option maxHeartbeats 4000000 in
theorem m_X4_isOffer {tm : Nat × Nat} {S : Sto} {w : MAd} {c : MC} {v : Int32} (hW : MW S w c)  : Ev tm M_X4_isOffer [.ref w.mm, .int v] S (Rt (some (.int (f_X4_isOffer c v))) S) := by
  have hF : FrM S S := FrM.rf
  refine ev_in ok_X4_isOffer (Nat.le_of_ble_eq_true rfl) ?_
  refine s_iloadn dX4_isOffer_0 rfl rfl ?_
  refine s_iconst (v := 0) dX4_isOffer_1 (by decide) ?_
  refine s_aloadn dX4_isOffer_2 rfl rfl ?_
  refine s_get (v := .int (c.ti 23)) (n := 84) dX4_isOffer_3 rfl hW.mm (congrArg Value.int (congrFun hW.ti 23)) ?_
  refine s_iconst (v := 1) dX4_isOffer_6 (by decide) ?_
  refine s_isub dX4_isOffer_7 ?_
  refine s_cs3R (n := 23) dX4_isOffer_8 rfl rfl (by decide) (by decide) (by decide) (by decide) (Nat.le_of_ble_eq_true rfl) (m_X4_isIn) ?_
  exact s_reti dX4_isOffer_11 rfl (nr_bool b_X4_isIn) ⟨congrArg (fun z => Sum.inl (some (Value.int z))) (Eq.symm (by unfold f_X4_isOffer; rfl)), rfl⟩
def g_X4_votes (c : MC) (j : Nat) (s z : Int32) : Nat → Int64
  | 0 => 0
  | k + 1 => if (f_X4_isVoter c k) = 0 then (g_X4_votes c j s z k) + 0 else (if s = (-1) then (if z = 0 then (g_X4_votes c j s z k) + (f_X4_owed c k) else (if (c.ai 27 (40 * j + k)) = 1 then (g_X4_votes c j s z k) + (f_X4_owed c k) else (g_X4_votes c j s z k) + 0)) else (if (c.ai 14 k) = s then (if z = 0 then (g_X4_votes c j s z k) + (f_X4_owed c k) else (if (c.ai 27 (40 * j + k)) = 1 then (g_X4_votes c j s z k) + (f_X4_owed c k) else (g_X4_votes c j s z k) + 0)) else (g_X4_votes c j s z k) + 0))
theorem g_X4_votes_s {c : MC} {j : Nat} {s z : Int32} {k : Nat} : g_X4_votes c j s z (k + 1) = (if (f_X4_isVoter c k) = 0 then (g_X4_votes c j s z k) + 0 else (if s = (-1) then (if z = 0 then (g_X4_votes c j s z k) + (f_X4_owed c k) else (if (c.ai 27 (40 * j + k)) = 1 then (g_X4_votes c j s z k) + (f_X4_owed c k) else (g_X4_votes c j s z k) + 0)) else (if (c.ai 14 k) = s then (if z = 0 then (g_X4_votes c j s z k) + (f_X4_owed c k) else (if (c.ai 27 (40 * j + k)) = 1 then (g_X4_votes c j s z k) + (f_X4_owed c k) else (g_X4_votes c j s z k) + 0)) else (g_X4_votes c j s z k) + 0)) : Int64) := rfl
def f_X4_votes (n : Nat) (c : MC) (j : Nat) (s z : Int32) : Int64 := (g_X4_votes c j s z n)
set_option maxHeartbeats 4000000 in
theorem m_X4_votes {tm : Nat × Nat} {S : Sto} {w : MAd} {c : MC} {n j : Nat} {s z : Int32} (hW : MW S w c) (hcl : c.ti 7 = nI n) (hn : n ≤ 40) (hj : j < 12) : Ev tm M_X4_votes [.ref w.mm, .int (nI j), .int s, .int z] S (Rt (some (.long (f_X4_votes n c j s z))) S) := by
  have hF : FrM S S := FrM.rf
  refine ev_in ok_X4_votes (Nat.le_of_ble_eq_true rfl) ?_
  refine s_lconst (v := 0) dX4_votes_0 (by decide) ?_
  refine s_lstore dX4_votes_1 (by decide) ?_
  refine s_iconst (v := 0) dX4_votes_3 (by decide) ?_
  refine s_istore dX4_votes_4 (by decide) ?_
  have LP_6 : ∀ (d k : Nat), k + d = n → Wp (Ev tm) tm M_X4_votes (Rt (some (.long (f_X4_votes n c j s z))) S) 6 [(0, .ref w.mm), (1, .int (nI j)), (2, .int s), (3, .int z), (4, .long (g_X4_votes c j s z k)), (6, .int (nI k))] [] 0 0 S := by
    intro d
    induction d with
    | zero =>
      intro k hkd
      have hkn : k = n := by omega
      subst hkn
      refine s_iload dX4_votes_6 rfl ?_
      refine s_aloadn dX4_votes_8 rfl rfl ?_
      refine s_get (v := .int (c.ti 7)) (n := 68) dX4_votes_9 rfl hW.mm (congrArg Value.int (congrFun hW.ti 7)) ?_
      refine s_icge (tgt := 93) dX4_votes_12 (by decide) (fun _ => ?_) (fun c => absurd (by rw [hcl]; exact Int32.le_refl _) c)
      refine s_lload dX4_votes_93 rfl ?_
      exact s_retl dX4_votes_95 rfl ⟨congrArg (fun z => Sum.inl (some (Value.long z))) (Eq.symm (by unfold f_X4_votes; rfl)), rfl⟩
    | succ d ih =>
      intro k hkd
      have hlt : k < n := by omega
      refine s_iload dX4_votes_6 rfl ?_
      refine s_aloadn dX4_votes_8 rfl rfl ?_
      refine s_get (v := .int (c.ti 7)) (n := 68) dX4_votes_9 rfl hW.mm (congrArg Value.int (congrFun hW.ti 7)) ?_
      refine s_icge (tgt := 93) dX4_votes_12 (by decide) (fun c => absurd c (by rw [hcl]; exact nI_ge hlt (by omega))) (fun _ => ?_)
      refine s_aloadn dX4_votes_15 rfl rfl ?_
      refine s_iload dX4_votes_16 rfl ?_
      refine s_cv1R (n := 63) dX4_votes_18 rfl (kv hW.mm (by decide) rfl) rfl (by decide) (by decide) (by decide) (by decide) (Nat.le_of_ble_eq_true rfl) (m_X4_isVoter hW (Nat.lt_of_lt_of_le hlt hn)) ?_
      refine s_ifeq (tgt := 44) dX4_votes_21 (by decide) (fun c_21 => ?_) (fun c_21 => ?_)
      · skip
        refine s_iconst (v := 0) dX4_votes_44 (by decide) ?_
        refine s_istore dX4_votes_45 (by decide) ?_
        refine s_lload dX4_votes_47 rfl ?_
        refine s_iload dX4_votes_49 rfl ?_
        refine s_ifeq (tgt := 83) dX4_votes_51 (by decide) (fun _ => ?_) (fun c => absurd c (by decide))
        refine s_lconst (v := 0) dX4_votes_83 (by decide) ?_
        refine s_ladd dX4_votes_84 ?_
        refine s_lstore dX4_votes_85 (by decide) ?_
        refine s_iinc (v := (nI k) + 1) dX4_votes_87 rfl (by rfl) (by decide) ?_
        refine s_goto (tgt := 6) dX4_votes_90 (by decide) ?_
        exact s_sub (lo' := [(0, .ref w.mm), (1, .int (nI j)), (2, .int s), (3, .int z), (4, .long (g_X4_votes c j s z (k + 1))), (6, .int (nI (k + 1)))]) (List.forall_mem_cons.mpr ⟨rfl, List.forall_mem_cons.mpr ⟨rfl, List.forall_mem_cons.mpr ⟨rfl, List.forall_mem_cons.mpr ⟨rfl, List.forall_mem_cons.mpr ⟨congrArg (fun z => some (Value.long z)) (Eq.symm (by rw [g_X4_votes_s, if_pos c_21])), List.forall_mem_cons.mpr ⟨congrArg (fun z => some (Value.int z)) (nI_1 k), fun _ h => absurd h List.not_mem_nil⟩⟩⟩⟩⟩⟩) (Nat.zero_le _) (Nat.zero_le _) (ih (k + 1) (by omega))
      · skip
        refine s_iloadn dX4_votes_24 rfl rfl ?_
        refine s_iconst (v := (-1)) dX4_votes_25 (by decide) ?_
        refine s_iceq (tgt := 40) dX4_votes_26 (by decide) (fun c_26 => ?_) (fun c_26 => ?_)
        · skip
          refine s_iconst (v := 1) dX4_votes_40 (by decide) ?_
          refine s_goto (tgt := 45) dX4_votes_41 (by decide) ?_
          refine s_istore dX4_votes_45 (by decide) ?_
          refine s_lload dX4_votes_47 rfl ?_
          refine s_iload dX4_votes_49 rfl ?_
          refine s_ifeq (tgt := 83) dX4_votes_51 (by decide) (fun c => absurd c (by decide)) (fun _ => ?_)
          refine s_iloadn dX4_votes_54 rfl rfl ?_
          refine s_ifeq (tgt := 74) dX4_votes_55 (by decide) (fun c_55 => ?_) (fun c_55 => ?_)
          · skip
            refine s_aloadn dX4_votes_74 rfl rfl ?_
            refine s_iload dX4_votes_75 rfl ?_
            refine s_cv1R (n := 52) dX4_votes_77 rfl (kv hW.mm (by decide) rfl) rfl (by decide) (by decide) (by decide) (by decide) (Nat.le_of_ble_eq_true rfl) (m_X4_owed hW (Nat.lt_of_lt_of_le hlt hn)) ?_
            refine s_goto (tgt := 84) dX4_votes_80 (by decide) ?_
            refine s_ladd dX4_votes_84 ?_
            refine s_lstore dX4_votes_85 (by decide) ?_
            refine s_iinc (v := (nI k) + 1) dX4_votes_87 rfl (by rfl) (by decide) ?_
            refine s_goto (tgt := 6) dX4_votes_90 (by decide) ?_
            exact s_sub (lo' := [(0, .ref w.mm), (1, .int (nI j)), (2, .int s), (3, .int z), (4, .long (g_X4_votes c j s z (k + 1))), (6, .int (nI (k + 1)))]) (List.forall_mem_cons.mpr ⟨rfl, List.forall_mem_cons.mpr ⟨rfl, List.forall_mem_cons.mpr ⟨rfl, List.forall_mem_cons.mpr ⟨rfl, List.forall_mem_cons.mpr ⟨congrArg (fun z => some (Value.long z)) (Eq.symm (by rw [g_X4_votes_s, if_neg c_21, if_pos c_26, if_pos c_55])), List.forall_mem_cons.mpr ⟨congrArg (fun z => some (Value.int z)) (nI_1 k), fun _ h => absurd h List.not_mem_nil⟩⟩⟩⟩⟩⟩) (Nat.zero_le _) (Nat.zero_le _) (ih (k + 1) (by omega))
          · skip
            refine s_aloadn dX4_votes_58 rfl rfl ?_
            refine s_getR (n := 88) dX4_votes_59 rfl hW.mm (fun _ _ _ => rfl) (hW.rr 27 (by decide)).1 ?_
            refine s_bipush (v := 40) dX4_votes_62 (by decide) ?_
            refine s_iloadn dX4_votes_64 rfl rfl ?_
            refine s_imul dX4_votes_65 ?_
            refine s_iload dX4_votes_66 rfl ?_
            refine s_iadd dX4_votes_68 ?_
            refine s_iald' (j := (40 * j + k)) dX4_votes_69 ((hW.rr 27 (by decide)).2.1) vix (by rw [(hW.rr 27 (by decide)).2.2]; exact (show 40 * j + k < 480 by omega)) (by rw [(hW.rr 27 (by decide)).2.2]; decide) ?_
            rw [hW.ai 27 (by decide)]
            refine s_iconst (v := 1) dX4_votes_70 (by decide) ?_
            refine s_icne (tgt := 83) dX4_votes_71 (by decide) (fun c_71 => ?_) (fun c_71 => ?_)
            · skip
              refine s_lconst (v := 0) dX4_votes_83 (by decide) ?_
              refine s_ladd dX4_votes_84 ?_
              refine s_lstore dX4_votes_85 (by decide) ?_
              refine s_iinc (v := (nI k) + 1) dX4_votes_87 rfl (by rfl) (by decide) ?_
              refine s_goto (tgt := 6) dX4_votes_90 (by decide) ?_
              exact s_sub (lo' := [(0, .ref w.mm), (1, .int (nI j)), (2, .int s), (3, .int z), (4, .long (g_X4_votes c j s z (k + 1))), (6, .int (nI (k + 1)))]) (List.forall_mem_cons.mpr ⟨rfl, List.forall_mem_cons.mpr ⟨rfl, List.forall_mem_cons.mpr ⟨rfl, List.forall_mem_cons.mpr ⟨rfl, List.forall_mem_cons.mpr ⟨congrArg (fun z => some (Value.long z)) (Eq.symm (by rw [g_X4_votes_s, if_neg c_21, if_pos c_26, if_neg c_55, if_neg c_71])), List.forall_mem_cons.mpr ⟨congrArg (fun z => some (Value.int z)) (nI_1 k), fun _ h => absurd h List.not_mem_nil⟩⟩⟩⟩⟩⟩) (Nat.zero_le _) (Nat.zero_le _) (ih (k + 1) (by omega))
            · skip
              refine s_aloadn dX4_votes_74 rfl rfl ?_
              refine s_iload dX4_votes_75 rfl ?_
              refine s_cv1R (n := 52) dX4_votes_77 rfl (kv hW.mm (by decide) rfl) rfl (by decide) (by decide) (by decide) (by decide) (Nat.le_of_ble_eq_true rfl) (m_X4_owed hW (Nat.lt_of_lt_of_le hlt hn)) ?_
              refine s_goto (tgt := 84) dX4_votes_80 (by decide) ?_
              refine s_ladd dX4_votes_84 ?_
              refine s_lstore dX4_votes_85 (by decide) ?_
              refine s_iinc (v := (nI k) + 1) dX4_votes_87 rfl (by rfl) (by decide) ?_
              refine s_goto (tgt := 6) dX4_votes_90 (by decide) ?_
              exact s_sub (lo' := [(0, .ref w.mm), (1, .int (nI j)), (2, .int s), (3, .int z), (4, .long (g_X4_votes c j s z (k + 1))), (6, .int (nI (k + 1)))]) (List.forall_mem_cons.mpr ⟨rfl, List.forall_mem_cons.mpr ⟨rfl, List.forall_mem_cons.mpr ⟨rfl, List.forall_mem_cons.mpr ⟨rfl, List.forall_mem_cons.mpr ⟨congrArg (fun z => some (Value.long z)) (Eq.symm (by rw [g_X4_votes_s, if_neg c_21, if_pos c_26, if_neg c_55, if_pos c_71])), List.forall_mem_cons.mpr ⟨congrArg (fun z => some (Value.int z)) (nI_1 k), fun _ h => absurd h List.not_mem_nil⟩⟩⟩⟩⟩⟩) (Nat.zero_le _) (Nat.zero_le _) (ih (k + 1) (by omega))
        · skip
          refine s_aloadn dX4_votes_29 rfl rfl ?_
          refine s_getR (n := 75) dX4_votes_30 rfl hW.mm (fun _ _ _ => rfl) (hW.rr 14 (by decide)).1 ?_
          refine s_iload dX4_votes_33 rfl ?_
          refine s_iald' (j := k) dX4_votes_35 ((hW.rr 14 (by decide)).2.1) rfl (by rw [(hW.rr 14 (by decide)).2.2]; exact (Nat.lt_of_lt_of_le hlt hn)) (by rw [(hW.rr 14 (by decide)).2.2]; decide) ?_
          rw [hW.ai 14 (by decide)]
          refine s_iloadn dX4_votes_36 rfl rfl ?_
          refine s_icne (tgt := 44) dX4_votes_37 (by decide) (fun c_37 => ?_) (fun c_37 => ?_)
          · skip
            refine s_iconst (v := 0) dX4_votes_44 (by decide) ?_
            refine s_istore dX4_votes_45 (by decide) ?_
            refine s_lload dX4_votes_47 rfl ?_
            refine s_iload dX4_votes_49 rfl ?_
            refine s_ifeq (tgt := 83) dX4_votes_51 (by decide) (fun _ => ?_) (fun c => absurd c (by decide))
            refine s_lconst (v := 0) dX4_votes_83 (by decide) ?_
            refine s_ladd dX4_votes_84 ?_
            refine s_lstore dX4_votes_85 (by decide) ?_
            refine s_iinc (v := (nI k) + 1) dX4_votes_87 rfl (by rfl) (by decide) ?_
            refine s_goto (tgt := 6) dX4_votes_90 (by decide) ?_
            exact s_sub (lo' := [(0, .ref w.mm), (1, .int (nI j)), (2, .int s), (3, .int z), (4, .long (g_X4_votes c j s z (k + 1))), (6, .int (nI (k + 1)))]) (List.forall_mem_cons.mpr ⟨rfl, List.forall_mem_cons.mpr ⟨rfl, List.forall_mem_cons.mpr ⟨rfl, List.forall_mem_cons.mpr ⟨rfl, List.forall_mem_cons.mpr ⟨congrArg (fun z => some (Value.long z)) (Eq.symm (by rw [g_X4_votes_s, if_neg c_21, if_neg c_26, if_neg c_37])), List.forall_mem_cons.mpr ⟨congrArg (fun z => some (Value.int z)) (nI_1 k), fun _ h => absurd h List.not_mem_nil⟩⟩⟩⟩⟩⟩) (Nat.zero_le _) (Nat.zero_le _) (ih (k + 1) (by omega))
          · skip
            refine s_iconst (v := 1) dX4_votes_40 (by decide) ?_
            refine s_goto (tgt := 45) dX4_votes_41 (by decide) ?_
            refine s_istore dX4_votes_45 (by decide) ?_
            refine s_lload dX4_votes_47 rfl ?_
            refine s_iload dX4_votes_49 rfl ?_
            refine s_ifeq (tgt := 83) dX4_votes_51 (by decide) (fun c => absurd c (by decide)) (fun _ => ?_)
            refine s_iloadn dX4_votes_54 rfl rfl ?_
            refine s_ifeq (tgt := 74) dX4_votes_55 (by decide) (fun c_55 => ?_) (fun c_55 => ?_)
            · skip
              refine s_aloadn dX4_votes_74 rfl rfl ?_
              refine s_iload dX4_votes_75 rfl ?_
              refine s_cv1R (n := 52) dX4_votes_77 rfl (kv hW.mm (by decide) rfl) rfl (by decide) (by decide) (by decide) (by decide) (Nat.le_of_ble_eq_true rfl) (m_X4_owed hW (Nat.lt_of_lt_of_le hlt hn)) ?_
              refine s_goto (tgt := 84) dX4_votes_80 (by decide) ?_
              refine s_ladd dX4_votes_84 ?_
              refine s_lstore dX4_votes_85 (by decide) ?_
              refine s_iinc (v := (nI k) + 1) dX4_votes_87 rfl (by rfl) (by decide) ?_
              refine s_goto (tgt := 6) dX4_votes_90 (by decide) ?_
              exact s_sub (lo' := [(0, .ref w.mm), (1, .int (nI j)), (2, .int s), (3, .int z), (4, .long (g_X4_votes c j s z (k + 1))), (6, .int (nI (k + 1)))]) (List.forall_mem_cons.mpr ⟨rfl, List.forall_mem_cons.mpr ⟨rfl, List.forall_mem_cons.mpr ⟨rfl, List.forall_mem_cons.mpr ⟨rfl, List.forall_mem_cons.mpr ⟨congrArg (fun z => some (Value.long z)) (Eq.symm (by rw [g_X4_votes_s, if_neg c_21, if_neg c_26, if_pos c_37, if_pos c_55])), List.forall_mem_cons.mpr ⟨congrArg (fun z => some (Value.int z)) (nI_1 k), fun _ h => absurd h List.not_mem_nil⟩⟩⟩⟩⟩⟩) (Nat.zero_le _) (Nat.zero_le _) (ih (k + 1) (by omega))
            · skip
              refine s_aloadn dX4_votes_58 rfl rfl ?_
              refine s_getR (n := 88) dX4_votes_59 rfl hW.mm (fun _ _ _ => rfl) (hW.rr 27 (by decide)).1 ?_
              refine s_bipush (v := 40) dX4_votes_62 (by decide) ?_
              refine s_iloadn dX4_votes_64 rfl rfl ?_
              refine s_imul dX4_votes_65 ?_
              refine s_iload dX4_votes_66 rfl ?_
              refine s_iadd dX4_votes_68 ?_
              refine s_iald' (j := (40 * j + k)) dX4_votes_69 ((hW.rr 27 (by decide)).2.1) vix (by rw [(hW.rr 27 (by decide)).2.2]; exact (show 40 * j + k < 480 by omega)) (by rw [(hW.rr 27 (by decide)).2.2]; decide) ?_
              rw [hW.ai 27 (by decide)]
              refine s_iconst (v := 1) dX4_votes_70 (by decide) ?_
              refine s_icne (tgt := 83) dX4_votes_71 (by decide) (fun c_71 => ?_) (fun c_71 => ?_)
              · skip
                refine s_lconst (v := 0) dX4_votes_83 (by decide) ?_
                refine s_ladd dX4_votes_84 ?_
                refine s_lstore dX4_votes_85 (by decide) ?_
                refine s_iinc (v := (nI k) + 1) dX4_votes_87 rfl (by rfl) (by decide) ?_
                refine s_goto (tgt := 6) dX4_votes_90 (by decide) ?_
                exact s_sub (lo' := [(0, .ref w.mm), (1, .int (nI j)), (2, .int s), (3, .int z), (4, .long (g_X4_votes c j s z (k + 1))), (6, .int (nI (k + 1)))]) (List.forall_mem_cons.mpr ⟨rfl, List.forall_mem_cons.mpr ⟨rfl, List.forall_mem_cons.mpr ⟨rfl, List.forall_mem_cons.mpr ⟨rfl, List.forall_mem_cons.mpr ⟨congrArg (fun z => some (Value.long z)) (Eq.symm (by rw [g_X4_votes_s, if_neg c_21, if_neg c_26, if_pos c_37, if_neg c_55, if_neg c_71])), List.forall_mem_cons.mpr ⟨congrArg (fun z => some (Value.int z)) (nI_1 k), fun _ h => absurd h List.not_mem_nil⟩⟩⟩⟩⟩⟩) (Nat.zero_le _) (Nat.zero_le _) (ih (k + 1) (by omega))
              · skip
                refine s_aloadn dX4_votes_74 rfl rfl ?_
                refine s_iload dX4_votes_75 rfl ?_
                refine s_cv1R (n := 52) dX4_votes_77 rfl (kv hW.mm (by decide) rfl) rfl (by decide) (by decide) (by decide) (by decide) (Nat.le_of_ble_eq_true rfl) (m_X4_owed hW (Nat.lt_of_lt_of_le hlt hn)) ?_
                refine s_goto (tgt := 84) dX4_votes_80 (by decide) ?_
                refine s_ladd dX4_votes_84 ?_
                refine s_lstore dX4_votes_85 (by decide) ?_
                refine s_iinc (v := (nI k) + 1) dX4_votes_87 rfl (by rfl) (by decide) ?_
                refine s_goto (tgt := 6) dX4_votes_90 (by decide) ?_
                exact s_sub (lo' := [(0, .ref w.mm), (1, .int (nI j)), (2, .int s), (3, .int z), (4, .long (g_X4_votes c j s z (k + 1))), (6, .int (nI (k + 1)))]) (List.forall_mem_cons.mpr ⟨rfl, List.forall_mem_cons.mpr ⟨rfl, List.forall_mem_cons.mpr ⟨rfl, List.forall_mem_cons.mpr ⟨rfl, List.forall_mem_cons.mpr ⟨congrArg (fun z => some (Value.long z)) (Eq.symm (by rw [g_X4_votes_s, if_neg c_21, if_neg c_26, if_pos c_37, if_neg c_55, if_pos c_71])), List.forall_mem_cons.mpr ⟨congrArg (fun z => some (Value.int z)) (nI_1 k), fun _ h => absurd h List.not_mem_nil⟩⟩⟩⟩⟩⟩) (Nat.zero_le _) (Nat.zero_le _) (ih (k + 1) (by omega))
  exact s_sub (lo' := [(0, .ref w.mm), (1, .int (nI j)), (2, .int s), (3, .int z), (4, .long (g_X4_votes c j s z 0)), (6, .int (nI 0))]) (List.forall_mem_cons.mpr ⟨rfl, List.forall_mem_cons.mpr ⟨rfl, List.forall_mem_cons.mpr ⟨rfl, List.forall_mem_cons.mpr ⟨rfl, List.forall_mem_cons.mpr ⟨rfl, List.forall_mem_cons.mpr ⟨rfl, fun _ h => absurd h List.not_mem_nil⟩⟩⟩⟩⟩⟩) (Nat.zero_le _) (Nat.zero_le _) (LP_6 n 0 (by omega))
def f_X4_isPart (n : Nat) (c : MC) (j : Nat) (s pt : Int32) : Int32 := if (f_X4_votes n c j s 0) ≤ 0 then 0 else (if (100 * (f_X4_votes n c j s 1)) < (((pt : Int32).toInt64) * (f_X4_votes n c j s 0)) then 0 else 1)
theorem b_X4_isPart {n : Nat} {c : MC} {j : Nat} {s pt : Int32} : f_X4_isPart n c j s pt = 0 ∨ f_X4_isPart n c j s pt = 1 := by
  unfold f_X4_isPart
  repeat' split
  all_goals first | decide | exact Or.inl rfl | exact Or.inr rfl | exact Or.inl ‹_›
set_option maxHeartbeats 4000000 in
theorem m_X4_isPart {tm : Nat × Nat} {S : Sto} {w : MAd} {c : MC} {n j : Nat} {s pt : Int32} (hW : MW S w c) (hcl : c.ti 7 = nI n) (hn : n ≤ 40) (hj : j < 12) : Ev tm M_X4_isPart [.ref w.mm, .int (nI j), .int s, .int pt] S (Rt (some (.int (f_X4_isPart n c j s pt))) S) := by
  have hF : FrM S S := FrM.rf
  refine ev_in ok_X4_isPart (Nat.le_of_ble_eq_true rfl) ?_
  refine s_aloadn dX4_isPart_0 rfl rfl ?_
  refine s_iloadn dX4_isPart_1 rfl rfl ?_
  refine s_iloadn dX4_isPart_2 rfl rfl ?_
  refine s_iconst (v := 0) dX4_isPart_3 (by decide) ?_
  refine s_cv3R (n := 64) dX4_isPart_4 rfl (kv hW.mm (by decide) rfl) rfl (by decide) (by decide) (by decide) (by decide) (Nat.le_of_ble_eq_true rfl) (m_X4_votes hW hcl hn hj) ?_
  refine s_lstore dX4_isPart_7 (by decide) ?_
  refine s_lload dX4_isPart_9 rfl ?_
  refine s_lconst (v := 0) dX4_isPart_11 (by decide) ?_
  refine s_lcle (tgt := 40) dX4_isPart_12 dX4_isPart_13 (by decide) (fun c_12 => ?_) (fun c_12 => ?_)
  · skip
    refine s_iconst (v := 0) dX4_isPart_40 (by decide) ?_
    exact s_reti dX4_isPart_41 rfl rfl ⟨congrArg (fun z => Sum.inl (some (Value.int z))) (Eq.symm (by unfold f_X4_isPart; rw [if_pos c_12])), rfl⟩
  · skip
    refine s_ldc2 (v := 100) dX4_isPart_16 csl_RX4_174 ?_
    refine s_aloadn dX4_isPart_19 rfl rfl ?_
    refine s_iloadn dX4_isPart_20 rfl rfl ?_
    refine s_iloadn dX4_isPart_21 rfl rfl ?_
    refine s_iconst (v := 1) dX4_isPart_22 (by decide) ?_
    refine s_cv3R (n := 64) dX4_isPart_23 rfl (kv hW.mm (by decide) rfl) rfl (by decide) (by decide) (by decide) (by decide) (Nat.le_of_ble_eq_true rfl) (m_X4_votes hW hcl hn hj) ?_
    refine s_lmul dX4_isPart_26 ?_
    refine s_iloadn dX4_isPart_27 rfl rfl ?_
    refine s_i2l dX4_isPart_28 ?_
    refine s_lload dX4_isPart_29 rfl ?_
    refine s_lmul dX4_isPart_31 ?_
    refine s_lclt (tgt := 40) dX4_isPart_32 dX4_isPart_33 (by decide) (fun c_32 => ?_) (fun c_32 => ?_)
    · skip
      refine s_iconst (v := 0) dX4_isPart_40 (by decide) ?_
      exact s_reti dX4_isPart_41 rfl rfl ⟨congrArg (fun z => Sum.inl (some (Value.int z))) (Eq.symm (by unfold f_X4_isPart; rw [if_neg c_12, if_pos c_32])), rfl⟩
    · skip
      refine s_iconst (v := 1) dX4_isPart_36 (by decide) ?_
      refine s_goto (tgt := 41) dX4_isPart_37 (by decide) ?_
      exact s_reti dX4_isPart_41 rfl rfl ⟨congrArg (fun z => Sum.inl (some (Value.int z))) (Eq.symm (by unfold f_X4_isPart; rw [if_neg c_12, if_neg c_32])), rfl⟩
def g_X4_arePooled (n : Nat) (c : MC) (j : Nat) : Nat → Int32
  | 0 => (f_X4_isPart n c j (-1) 66)
  | k + 1 => if (g_X4_arePooled n c j k) = 0 then 0 else (if (f_X4_votes n c j (nI k) 0) = 0 then 1 else (if (f_X4_isPart n c j (nI k) 50) = 0 then 0 else 1))
theorem g_X4_arePooled_s {n : Nat} {c : MC} {j : Nat} {k : Nat} : g_X4_arePooled n c j (k + 1) = (if (g_X4_arePooled n c j k) = 0 then 0 else (if (f_X4_votes n c j (nI k) 0) = 0 then 1 else (if (f_X4_isPart n c j (nI k) 50) = 0 then 0 else 1)) : Int32) := rfl
theorem b_g_X4_arePooled {n : Nat} {c : MC} {j : Nat} {k : Nat} : g_X4_arePooled n c j k = 0 ∨ g_X4_arePooled n c j k = 1 := by
  induction k with
  | zero => exact b_X4_isPart
  | succ k ih =>
    rw [g_X4_arePooled_s]
    repeat' split
    all_goals first | exact Or.inl rfl | exact Or.inr rfl | exact ih
def f_X4_arePooled (n : Nat) (c : MC) (j : Nat) : Int32 := (g_X4_arePooled n c j 4)
theorem b_X4_arePooled {n : Nat} {c : MC} {j : Nat} : f_X4_arePooled n c j = 0 ∨ f_X4_arePooled n c j = 1 := by
  unfold f_X4_arePooled
  repeat' split
  all_goals first | exact b_g_X4_arePooled | exact Or.inl rfl | exact Or.inr rfl | exact Or.inl ‹_›
set_option maxHeartbeats 4000000 in
theorem m_X4_arePooled {tm : Nat × Nat} {S : Sto} {w : MAd} {c : MC} {n j : Nat} (hW : MW S w c) (hcl : c.ti 7 = nI n) (hn : n ≤ 40) (hj : j < 12) : Ev tm M_X4_arePooled [.ref w.mm, .int (nI j)] S (Rt (some (.int (f_X4_arePooled n c j))) S) := by
  have hF : FrM S S := FrM.rf
  refine ev_in ok_X4_arePooled (Nat.le_of_ble_eq_true rfl) ?_
  refine s_aloadn dX4_arePooled_0 rfl rfl ?_
  refine s_iloadn dX4_arePooled_1 rfl rfl ?_
  refine s_iconst (v := (-1)) dX4_arePooled_2 (by decide) ?_
  refine s_bipush (v := 66) dX4_arePooled_3 (by decide) ?_
  refine s_cv3R (n := 65) dX4_arePooled_5 rfl (kv hW.mm (by decide) rfl) rfl (by decide) (by decide) (by decide) (by decide) (Nat.le_of_ble_eq_true rfl) (m_X4_isPart hW hcl hn hj) ?_
  refine s_istoren dX4_arePooled_8 rfl (by decide) ?_
  refine s_iconst (v := 0) dX4_arePooled_9 (by decide) ?_
  refine s_istoren dX4_arePooled_10 rfl (by decide) ?_
  have LP_11 : ∀ (d k : Nat), k + d = 4 → Wp (Ev tm) tm M_X4_arePooled (Rt (some (.int (f_X4_arePooled n c j))) S) 11 [(0, .ref w.mm), (1, .int (nI j)), (2, .int (g_X4_arePooled n c j k)), (3, .int (nI k))] [] 0 0 S := by
    intro d
    induction d with
    | zero =>
      intro k hkd
      have hkn : k = 4 := by omega
      subst hkn
      refine s_iloadn dX4_arePooled_11 rfl rfl ?_
      refine s_iconst (v := 4) dX4_arePooled_12 (by decide) ?_
      refine s_icge (tgt := 55) dX4_arePooled_13 (by decide) (fun _ => ?_) (fun c => absurd (show (4 : Int32) ≤ nI 4 from by decide) c)
      refine s_iloadn dX4_arePooled_55 rfl rfl ?_
      exact s_reti dX4_arePooled_56 rfl (nr_bool b_g_X4_arePooled) ⟨congrArg (fun z => Sum.inl (some (Value.int z))) (Eq.symm (by unfold f_X4_arePooled; rfl)), rfl⟩
    | succ d ih =>
      intro k hkd
      have hlt : k < 4 := by omega
      refine s_iloadn dX4_arePooled_11 rfl rfl ?_
      refine s_iconst (v := 4) dX4_arePooled_12 (by decide) ?_
      refine s_icge (tgt := 55) dX4_arePooled_13 (by decide) (fun c => absurd c (nI_ge (b := 4) hlt (by decide))) (fun _ => ?_)
      refine s_iloadn dX4_arePooled_16 rfl rfl ?_
      refine s_ifeq (tgt := 47) dX4_arePooled_17 (by decide) (fun c_17 => ?_) (fun c_17 => ?_)
      · skip
        refine s_iconst (v := 0) dX4_arePooled_47 (by decide) ?_
        refine s_istoren dX4_arePooled_48 rfl (by decide) ?_
        refine s_iinc (v := (nI k) + 1) dX4_arePooled_49 rfl (by rfl) (by decide) ?_
        refine s_goto (tgt := 11) dX4_arePooled_52 (by decide) ?_
        exact s_sub (lo' := [(0, .ref w.mm), (1, .int (nI j)), (2, .int (g_X4_arePooled n c j (k + 1))), (3, .int (nI (k + 1)))]) (List.forall_mem_cons.mpr ⟨rfl, List.forall_mem_cons.mpr ⟨rfl, List.forall_mem_cons.mpr ⟨congrArg (fun z => some (Value.int z)) (Eq.symm (by rw [g_X4_arePooled_s, if_pos c_17])), List.forall_mem_cons.mpr ⟨congrArg (fun z => some (Value.int z)) (nI_1 k), fun _ h => absurd h List.not_mem_nil⟩⟩⟩⟩) (Nat.zero_le _) (Nat.zero_le _) (ih (k + 1) (by omega))
      · skip
        refine s_aloadn dX4_arePooled_20 rfl rfl ?_
        refine s_iloadn dX4_arePooled_21 rfl rfl ?_
        refine s_iloadn dX4_arePooled_22 rfl rfl ?_
        refine s_iconst (v := 0) dX4_arePooled_23 (by decide) ?_
        refine s_cv3R (n := 64) dX4_arePooled_24 rfl (kv hW.mm (by decide) rfl) rfl (by decide) (by decide) (by decide) (by decide) (Nat.le_of_ble_eq_true rfl) (m_X4_votes hW hcl hn hj) ?_
        refine s_lconst (v := 0) dX4_arePooled_27 (by decide) ?_
        refine s_lceq (tgt := 43) dX4_arePooled_28 dX4_arePooled_29 (by decide) (fun c_28 => ?_) (fun c_28 => ?_)
        · skip
          refine s_iconst (v := 1) dX4_arePooled_43 (by decide) ?_
          refine s_goto (tgt := 48) dX4_arePooled_44 (by decide) ?_
          refine s_istoren dX4_arePooled_48 rfl (by decide) ?_
          refine s_iinc (v := (nI k) + 1) dX4_arePooled_49 rfl (by rfl) (by decide) ?_
          refine s_goto (tgt := 11) dX4_arePooled_52 (by decide) ?_
          exact s_sub (lo' := [(0, .ref w.mm), (1, .int (nI j)), (2, .int (g_X4_arePooled n c j (k + 1))), (3, .int (nI (k + 1)))]) (List.forall_mem_cons.mpr ⟨rfl, List.forall_mem_cons.mpr ⟨rfl, List.forall_mem_cons.mpr ⟨congrArg (fun z => some (Value.int z)) (Eq.symm (by rw [g_X4_arePooled_s, if_neg c_17, if_pos c_28])), List.forall_mem_cons.mpr ⟨congrArg (fun z => some (Value.int z)) (nI_1 k), fun _ h => absurd h List.not_mem_nil⟩⟩⟩⟩) (Nat.zero_le _) (Nat.zero_le _) (ih (k + 1) (by omega))
        · skip
          refine s_aloadn dX4_arePooled_32 rfl rfl ?_
          refine s_iloadn dX4_arePooled_33 rfl rfl ?_
          refine s_iloadn dX4_arePooled_34 rfl rfl ?_
          refine s_bipush (v := 50) dX4_arePooled_35 (by decide) ?_
          refine s_cv3R (n := 65) dX4_arePooled_37 rfl (kv hW.mm (by decide) rfl) rfl (by decide) (by decide) (by decide) (by decide) (Nat.le_of_ble_eq_true rfl) (m_X4_isPart hW hcl hn hj) ?_
          refine s_ifeq (tgt := 47) dX4_arePooled_40 (by decide) (fun c_40 => ?_) (fun c_40 => ?_)
          · skip
            refine s_iconst (v := 0) dX4_arePooled_47 (by decide) ?_
            refine s_istoren dX4_arePooled_48 rfl (by decide) ?_
            refine s_iinc (v := (nI k) + 1) dX4_arePooled_49 rfl (by rfl) (by decide) ?_
            refine s_goto (tgt := 11) dX4_arePooled_52 (by decide) ?_
            exact s_sub (lo' := [(0, .ref w.mm), (1, .int (nI j)), (2, .int (g_X4_arePooled n c j (k + 1))), (3, .int (nI (k + 1)))]) (List.forall_mem_cons.mpr ⟨rfl, List.forall_mem_cons.mpr ⟨rfl, List.forall_mem_cons.mpr ⟨congrArg (fun z => some (Value.int z)) (Eq.symm (by rw [g_X4_arePooled_s, if_neg c_17, if_neg c_28, if_pos c_40])), List.forall_mem_cons.mpr ⟨congrArg (fun z => some (Value.int z)) (nI_1 k), fun _ h => absurd h List.not_mem_nil⟩⟩⟩⟩) (Nat.zero_le _) (Nat.zero_le _) (ih (k + 1) (by omega))
          · skip
            refine s_iconst (v := 1) dX4_arePooled_43 (by decide) ?_
            refine s_goto (tgt := 48) dX4_arePooled_44 (by decide) ?_
            refine s_istoren dX4_arePooled_48 rfl (by decide) ?_
            refine s_iinc (v := (nI k) + 1) dX4_arePooled_49 rfl (by rfl) (by decide) ?_
            refine s_goto (tgt := 11) dX4_arePooled_52 (by decide) ?_
            exact s_sub (lo' := [(0, .ref w.mm), (1, .int (nI j)), (2, .int (g_X4_arePooled n c j (k + 1))), (3, .int (nI (k + 1)))]) (List.forall_mem_cons.mpr ⟨rfl, List.forall_mem_cons.mpr ⟨rfl, List.forall_mem_cons.mpr ⟨congrArg (fun z => some (Value.int z)) (Eq.symm (by rw [g_X4_arePooled_s, if_neg c_17, if_neg c_28, if_neg c_40])), List.forall_mem_cons.mpr ⟨congrArg (fun z => some (Value.int z)) (nI_1 k), fun _ h => absurd h List.not_mem_nil⟩⟩⟩⟩) (Nat.zero_le _) (Nat.zero_le _) (ih (k + 1) (by omega))
  exact s_sub (lo' := [(0, .ref w.mm), (1, .int (nI j)), (2, .int (g_X4_arePooled n c j 0)), (3, .int (nI 0))]) (List.forall_mem_cons.mpr ⟨rfl, List.forall_mem_cons.mpr ⟨rfl, List.forall_mem_cons.mpr ⟨rfl, List.forall_mem_cons.mpr ⟨rfl, fun _ h => absurd h List.not_mem_nil⟩⟩⟩⟩) (Nat.zero_le _) (Nat.zero_le _) (LP_11 4 0 (by omega))
def f_X4_isPassed (n : Nat) (c : MC) (j : Nat) (s : Int32) : Int32 := if s = (-1) then (f_X4_arePooled n c j) else (f_X4_isPart n c j s 75)
theorem b_X4_isPassed {n : Nat} {c : MC} {j : Nat} {s : Int32} : f_X4_isPassed n c j s = 0 ∨ f_X4_isPassed n c j s = 1 := by
  unfold f_X4_isPassed
  split
  · exact b_X4_arePooled
  · exact b_X4_isPart
set_option maxHeartbeats 4000000 in
theorem m_X4_isPassed {tm : Nat × Nat} {S : Sto} {w : MAd} {c : MC} {n j : Nat} {s : Int32} (hW : MW S w c) (hcl : c.ti 7 = nI n) (hn : n ≤ 40) (hj : j < 12) : Ev tm M_X4_isPassed [.ref w.mm, .int (nI j), .int s] S (Rt (some (.int (f_X4_isPassed n c j s))) S) := by
  have hF : FrM S S := FrM.rf
  refine ev_in ok_X4_isPassed (Nat.le_of_ble_eq_true rfl) ?_
  refine s_iloadn dX4_isPassed_0 rfl rfl ?_
  refine s_iconst (v := (-1)) dX4_isPassed_1 (by decide) ?_
  refine s_icne (tgt := 13) dX4_isPassed_2 (by decide) (fun c_2 => ?_) (fun c_2 => ?_)
  · skip
    refine s_aloadn dX4_isPassed_13 rfl rfl ?_
    refine s_iloadn dX4_isPassed_14 rfl rfl ?_
    refine s_iloadn dX4_isPassed_15 rfl rfl ?_
    refine s_bipush (v := 75) dX4_isPassed_16 (by decide) ?_
    refine s_cv3R (n := 65) dX4_isPassed_18 rfl (kv hW.mm (by decide) rfl) rfl (by decide) (by decide) (by decide) (by decide) (Nat.le_of_ble_eq_true rfl) (m_X4_isPart hW hcl hn hj) ?_
    exact s_reti dX4_isPassed_21 rfl (nr_bool b_X4_isPart) ⟨congrArg (fun z => Sum.inl (some (Value.int z))) (Eq.symm (by unfold f_X4_isPassed; rw [if_neg c_2])), rfl⟩
  · skip
    refine s_aloadn dX4_isPassed_5 rfl rfl ?_
    refine s_iloadn dX4_isPassed_6 rfl rfl ?_
    refine s_cv1R (n := 66) dX4_isPassed_7 rfl (kv hW.mm (by decide) rfl) rfl (by decide) (by decide) (by decide) (by decide) (Nat.le_of_ble_eq_true rfl) (m_X4_arePooled hW hcl hn hj) ?_
    refine s_goto (tgt := 21) dX4_isPassed_10 (by decide) ?_
    exact s_reti dX4_isPassed_21 rfl (nr_bool b_X4_arePooled) ⟨congrArg (fun z => Sum.inl (some (Value.int z))) (Eq.symm (by unfold f_X4_isPassed; rw [if_pos c_2])), rfl⟩
def g_X4_passed0 (n : Nat) (c : MC) (j : Nat) : Nat → Int32
  | 0 => 0
  | k + 1 => if (f_X4_isPassed n c j (nI k)) = 0 then (g_X4_passed0 n c j k) ||| 0 else (g_X4_passed0 n c j k) ||| (1 <<< ((nI k) &&& 31))
theorem g_X4_passed0_s {n : Nat} {c : MC} {j : Nat} {k : Nat} : g_X4_passed0 n c j (k + 1) = (if (f_X4_isPassed n c j (nI k)) = 0 then (g_X4_passed0 n c j k) ||| 0 else (g_X4_passed0 n c j k) ||| (1 <<< ((nI k) &&& 31)) : Int32) := rfl
def g_X4_passed15 (n : Nat) (c : MC) (j : Nat) : Nat → Int32
  | 0 => 15
  | k + 1 => if (f_X4_isPassed n c j (nI k)) = 0 then (g_X4_passed15 n c j k) ||| 0 else (g_X4_passed15 n c j k) ||| (1 <<< ((nI k) &&& 31))
theorem g_X4_passed15_s {n : Nat} {c : MC} {j : Nat} {k : Nat} : g_X4_passed15 n c j (k + 1) = (if (f_X4_isPassed n c j (nI k)) = 0 then (g_X4_passed15 n c j k) ||| 0 else (g_X4_passed15 n c j k) ||| (1 <<< ((nI k) &&& 31)) : Int32) := rfl
def f_X4_passed (n : Nat) (c : MC) (j : Nat) : Int32 := if (f_X4_arePooled n c j) = 0 then (g_X4_passed0 n c j 4) else (g_X4_passed15 n c j 4)
set_option maxHeartbeats 4000000 in
theorem m_X4_passed {tm : Nat × Nat} {S : Sto} {w : MAd} {c : MC} {n j : Nat} (hW : MW S w c) (hcl : c.ti 7 = nI n) (hn : n ≤ 40) (hj : j < 12) : Ev tm M_X4_passed [.ref w.mm, .int (nI j)] S (Rt (some (.int (f_X4_passed n c j))) S) := by
  have hF : FrM S S := FrM.rf
  refine ev_in ok_X4_passed (Nat.le_of_ble_eq_true rfl) ?_
  refine s_aloadn dX4_passed_0 rfl rfl ?_
  refine s_iloadn dX4_passed_1 rfl rfl ?_
  refine s_cv1R (n := 66) dX4_passed_2 rfl (kv hW.mm (by decide) rfl) rfl (by decide) (by decide) (by decide) (by decide) (Nat.le_of_ble_eq_true rfl) (m_X4_arePooled hW hcl hn hj) ?_
  refine s_ifeq (tgt := 13) dX4_passed_5 (by decide) (fun c_5 => ?_) (fun c_5 => ?_)
  · skip
    refine s_iconst (v := 0) dX4_passed_13 (by decide) ?_
    refine s_istoren dX4_passed_14 rfl (by decide) ?_
    refine s_iconst (v := 0) dX4_passed_15 (by decide) ?_
    refine s_istoren dX4_passed_16 rfl (by decide) ?_
    have LP_17 : ∀ (d k : Nat), k + d = 4 → Wp (Ev tm) tm M_X4_passed (Rt (some (.int (f_X4_passed n c j))) S) 17 [(0, .ref w.mm), (1, .int (nI j)), (2, .int (g_X4_passed0 n c j k)), (3, .int (nI k))] [] 0 0 S := by
      intro d
      induction d with
      | zero =>
        intro k hkd
        have hkn : k = 4 := by omega
        subst hkn
        refine s_iloadn dX4_passed_17 rfl rfl ?_
        refine s_iconst (v := 4) dX4_passed_18 (by decide) ?_
        refine s_icge (tgt := 47) dX4_passed_19 (by decide) (fun _ => ?_) (fun c => absurd (show (4 : Int32) ≤ nI 4 from by decide) c)
        refine s_iloadn dX4_passed_47 rfl rfl ?_
        exact s_reti dX4_passed_48 rfl rfl ⟨congrArg (fun z => Sum.inl (some (Value.int z))) (Eq.symm (by unfold f_X4_passed; rw [if_pos c_5])), rfl⟩
      | succ d ih =>
        intro k hkd
        have hlt : k < 4 := by omega
        refine s_iloadn dX4_passed_17 rfl rfl ?_
        refine s_iconst (v := 4) dX4_passed_18 (by decide) ?_
        refine s_icge (tgt := 47) dX4_passed_19 (by decide) (fun c => absurd c (nI_ge (b := 4) hlt (by decide))) (fun _ => ?_)
        refine s_iloadn dX4_passed_22 rfl rfl ?_
        refine s_aloadn dX4_passed_23 rfl rfl ?_
        refine s_iloadn dX4_passed_24 rfl rfl ?_
        refine s_iloadn dX4_passed_25 rfl rfl ?_
        refine s_cv2R (n := 67) dX4_passed_26 rfl (kv hW.mm (by decide) rfl) rfl (by decide) (by decide) (by decide) (by decide) (Nat.le_of_ble_eq_true rfl) (m_X4_isPassed hW hcl hn hj) ?_
        refine s_ifeq (tgt := 38) dX4_passed_29 (by decide) (fun c_29 => ?_) (fun c_29 => ?_)
        · skip
          refine s_iconst (v := 0) dX4_passed_38 (by decide) ?_
          refine s_ior dX4_passed_39 ?_
          refine s_istoren dX4_passed_40 rfl (by decide) ?_
          refine s_iinc (v := (nI k) + 1) dX4_passed_41 rfl (by rfl) (by decide) ?_
          refine s_goto (tgt := 17) dX4_passed_44 (by decide) ?_
          exact s_sub (lo' := [(0, .ref w.mm), (1, .int (nI j)), (2, .int (g_X4_passed0 n c j (k + 1))), (3, .int (nI (k + 1)))]) (List.forall_mem_cons.mpr ⟨rfl, List.forall_mem_cons.mpr ⟨rfl, List.forall_mem_cons.mpr ⟨congrArg (fun z => some (Value.int z)) (Eq.symm (by rw [g_X4_passed0_s, if_pos c_29])), List.forall_mem_cons.mpr ⟨congrArg (fun z => some (Value.int z)) (nI_1 k), fun _ h => absurd h List.not_mem_nil⟩⟩⟩⟩) (Nat.zero_le _) (Nat.zero_le _) (ih (k + 1) (by omega))
        · skip
          refine s_iconst (v := 1) dX4_passed_32 (by decide) ?_
          refine s_iloadn dX4_passed_33 rfl rfl ?_
          refine s_ishl dX4_passed_34 ?_
          refine s_goto (tgt := 39) dX4_passed_35 (by decide) ?_
          refine s_ior dX4_passed_39 ?_
          refine s_istoren dX4_passed_40 rfl (by decide) ?_
          refine s_iinc (v := (nI k) + 1) dX4_passed_41 rfl (by rfl) (by decide) ?_
          refine s_goto (tgt := 17) dX4_passed_44 (by decide) ?_
          exact s_sub (lo' := [(0, .ref w.mm), (1, .int (nI j)), (2, .int (g_X4_passed0 n c j (k + 1))), (3, .int (nI (k + 1)))]) (List.forall_mem_cons.mpr ⟨rfl, List.forall_mem_cons.mpr ⟨rfl, List.forall_mem_cons.mpr ⟨congrArg (fun z => some (Value.int z)) (Eq.symm (by rw [g_X4_passed0_s, if_neg c_29])), List.forall_mem_cons.mpr ⟨congrArg (fun z => some (Value.int z)) (nI_1 k), fun _ h => absurd h List.not_mem_nil⟩⟩⟩⟩) (Nat.zero_le _) (Nat.zero_le _) (ih (k + 1) (by omega))
    exact s_sub (lo' := [(0, .ref w.mm), (1, .int (nI j)), (2, .int (g_X4_passed0 n c j 0)), (3, .int (nI 0))]) (List.forall_mem_cons.mpr ⟨rfl, List.forall_mem_cons.mpr ⟨rfl, List.forall_mem_cons.mpr ⟨rfl, List.forall_mem_cons.mpr ⟨rfl, fun _ h => absurd h List.not_mem_nil⟩⟩⟩⟩) (Nat.zero_le _) (Nat.zero_le _) (LP_17 4 0 (by omega))
  · skip
    refine s_bipush (v := 15) dX4_passed_8 (by decide) ?_
    refine s_goto (tgt := 14) dX4_passed_10 (by decide) ?_
    refine s_istoren dX4_passed_14 rfl (by decide) ?_
    refine s_iconst (v := 0) dX4_passed_15 (by decide) ?_
    refine s_istoren dX4_passed_16 rfl (by decide) ?_
    have LP_17 : ∀ (d k : Nat), k + d = 4 → Wp (Ev tm) tm M_X4_passed (Rt (some (.int (f_X4_passed n c j))) S) 17 [(0, .ref w.mm), (1, .int (nI j)), (2, .int (g_X4_passed15 n c j k)), (3, .int (nI k))] [] 0 0 S := by
      intro d
      induction d with
      | zero =>
        intro k hkd
        have hkn : k = 4 := by omega
        subst hkn
        refine s_iloadn dX4_passed_17 rfl rfl ?_
        refine s_iconst (v := 4) dX4_passed_18 (by decide) ?_
        refine s_icge (tgt := 47) dX4_passed_19 (by decide) (fun _ => ?_) (fun c => absurd (show (4 : Int32) ≤ nI 4 from by decide) c)
        refine s_iloadn dX4_passed_47 rfl rfl ?_
        exact s_reti dX4_passed_48 rfl rfl ⟨congrArg (fun z => Sum.inl (some (Value.int z))) (Eq.symm (by unfold f_X4_passed; rw [if_neg c_5])), rfl⟩
      | succ d ih =>
        intro k hkd
        have hlt : k < 4 := by omega
        refine s_iloadn dX4_passed_17 rfl rfl ?_
        refine s_iconst (v := 4) dX4_passed_18 (by decide) ?_
        refine s_icge (tgt := 47) dX4_passed_19 (by decide) (fun c => absurd c (nI_ge (b := 4) hlt (by decide))) (fun _ => ?_)
        refine s_iloadn dX4_passed_22 rfl rfl ?_
        refine s_aloadn dX4_passed_23 rfl rfl ?_
        refine s_iloadn dX4_passed_24 rfl rfl ?_
        refine s_iloadn dX4_passed_25 rfl rfl ?_
        refine s_cv2R (n := 67) dX4_passed_26 rfl (kv hW.mm (by decide) rfl) rfl (by decide) (by decide) (by decide) (by decide) (Nat.le_of_ble_eq_true rfl) (m_X4_isPassed hW hcl hn hj) ?_
        refine s_ifeq (tgt := 38) dX4_passed_29 (by decide) (fun c_29 => ?_) (fun c_29 => ?_)
        · skip
          refine s_iconst (v := 0) dX4_passed_38 (by decide) ?_
          refine s_ior dX4_passed_39 ?_
          refine s_istoren dX4_passed_40 rfl (by decide) ?_
          refine s_iinc (v := (nI k) + 1) dX4_passed_41 rfl (by rfl) (by decide) ?_
          refine s_goto (tgt := 17) dX4_passed_44 (by decide) ?_
          exact s_sub (lo' := [(0, .ref w.mm), (1, .int (nI j)), (2, .int (g_X4_passed15 n c j (k + 1))), (3, .int (nI (k + 1)))]) (List.forall_mem_cons.mpr ⟨rfl, List.forall_mem_cons.mpr ⟨rfl, List.forall_mem_cons.mpr ⟨congrArg (fun z => some (Value.int z)) (Eq.symm (by rw [g_X4_passed15_s, if_pos c_29])), List.forall_mem_cons.mpr ⟨congrArg (fun z => some (Value.int z)) (nI_1 k), fun _ h => absurd h List.not_mem_nil⟩⟩⟩⟩) (Nat.zero_le _) (Nat.zero_le _) (ih (k + 1) (by omega))
        · skip
          refine s_iconst (v := 1) dX4_passed_32 (by decide) ?_
          refine s_iloadn dX4_passed_33 rfl rfl ?_
          refine s_ishl dX4_passed_34 ?_
          refine s_goto (tgt := 39) dX4_passed_35 (by decide) ?_
          refine s_ior dX4_passed_39 ?_
          refine s_istoren dX4_passed_40 rfl (by decide) ?_
          refine s_iinc (v := (nI k) + 1) dX4_passed_41 rfl (by rfl) (by decide) ?_
          refine s_goto (tgt := 17) dX4_passed_44 (by decide) ?_
          exact s_sub (lo' := [(0, .ref w.mm), (1, .int (nI j)), (2, .int (g_X4_passed15 n c j (k + 1))), (3, .int (nI (k + 1)))]) (List.forall_mem_cons.mpr ⟨rfl, List.forall_mem_cons.mpr ⟨rfl, List.forall_mem_cons.mpr ⟨congrArg (fun z => some (Value.int z)) (Eq.symm (by rw [g_X4_passed15_s, if_neg c_29])), List.forall_mem_cons.mpr ⟨congrArg (fun z => some (Value.int z)) (nI_1 k), fun _ h => absurd h List.not_mem_nil⟩⟩⟩⟩) (Nat.zero_le _) (Nat.zero_le _) (ih (k + 1) (by omega))
    exact s_sub (lo' := [(0, .ref w.mm), (1, .int (nI j)), (2, .int (g_X4_passed15 n c j 0)), (3, .int (nI 0))]) (List.forall_mem_cons.mpr ⟨rfl, List.forall_mem_cons.mpr ⟨rfl, List.forall_mem_cons.mpr ⟨rfl, List.forall_mem_cons.mpr ⟨rfl, fun _ h => absurd h List.not_mem_nil⟩⟩⟩⟩) (Nat.zero_le _) (Nat.zero_le _) (LP_17 4 0 (by omega))
def f_X4_goes (c : MC) (k : Nat) (z : Int32) : Int32 := if (c.ai 8 k) = 1 then (if (c.ai 16 k) = 0 then (if ((z >>> ((c.ai 14 k) &&& 31)) &&& 1) = 1 then 1 else 0) else 0) else 0
theorem b_X4_goes {c : MC} {k : Nat} {z : Int32} : f_X4_goes c k z = 0 ∨ f_X4_goes c k z = 1 := by
  unfold f_X4_goes
  repeat' split
  all_goals first | decide | exact Or.inl rfl | exact Or.inr rfl | exact Or.inl ‹_›
set_option maxHeartbeats 4000000 in
theorem m_X4_goes {tm : Nat × Nat} {S : Sto} {w : MAd} {c : MC} {k : Nat} {z : Int32} (hW : MW S w c) (hk : k < 40) : Ev tm M_X4_goes [.ref w.mm, .int (nI k), .int z] S (Rt (some (.int (f_X4_goes c k z))) S) := by
  have hF : FrM S S := FrM.rf
  refine ev_in ok_X4_goes (Nat.le_of_ble_eq_true rfl) ?_
  refine s_aloadn dX4_goes_0 rfl rfl ?_
  refine s_getR (n := 69) dX4_goes_1 rfl hW.mm (fun _ _ _ => rfl) (hW.rr 8 (by decide)).1 ?_
  refine s_iloadn dX4_goes_4 rfl rfl ?_
  refine s_iald' (j := k) dX4_goes_5 ((hW.rr 8 (by decide)).2.1) rfl (by rw [(hW.rr 8 (by decide)).2.2]; exact hk) (by rw [(hW.rr 8 (by decide)).2.2]; decide) ?_
  rw [hW.ai 8 (by decide)]
  refine s_iconst (v := 1) dX4_goes_6 (by decide) ?_
  refine s_icne (tgt := 37) dX4_goes_7 (by decide) (fun c_7 => ?_) (fun c_7 => ?_)
  · skip
    refine s_iconst (v := 0) dX4_goes_37 (by decide) ?_
    exact s_reti dX4_goes_38 rfl rfl ⟨congrArg (fun z => Sum.inl (some (Value.int z))) (Eq.symm (by unfold f_X4_goes; rw [if_neg c_7])), rfl⟩
  · skip
    refine s_aloadn dX4_goes_10 rfl rfl ?_
    refine s_getR (n := 77) dX4_goes_11 rfl hW.mm (fun _ _ _ => rfl) (hW.rr 16 (by decide)).1 ?_
    refine s_iloadn dX4_goes_14 rfl rfl ?_
    refine s_iald' (j := k) dX4_goes_15 ((hW.rr 16 (by decide)).2.1) rfl (by rw [(hW.rr 16 (by decide)).2.2]; exact hk) (by rw [(hW.rr 16 (by decide)).2.2]; decide) ?_
    rw [hW.ai 16 (by decide)]
    refine s_ifne (tgt := 37) dX4_goes_16 (by decide) (fun c_16 => ?_) (fun c_16 => ?_)
    · skip
      refine s_iconst (v := 0) dX4_goes_37 (by decide) ?_
      exact s_reti dX4_goes_38 rfl rfl ⟨congrArg (fun z => Sum.inl (some (Value.int z))) (Eq.symm (by unfold f_X4_goes; rw [if_pos c_7, if_neg c_16])), rfl⟩
    · skip
      refine s_iloadn dX4_goes_19 rfl rfl ?_
      refine s_aloadn dX4_goes_20 rfl rfl ?_
      refine s_getR (n := 75) dX4_goes_21 rfl hW.mm (fun _ _ _ => rfl) (hW.rr 14 (by decide)).1 ?_
      refine s_iloadn dX4_goes_24 rfl rfl ?_
      refine s_iald' (j := k) dX4_goes_25 ((hW.rr 14 (by decide)).2.1) rfl (by rw [(hW.rr 14 (by decide)).2.2]; exact hk) (by rw [(hW.rr 14 (by decide)).2.2]; decide) ?_
      rw [hW.ai 14 (by decide)]
      refine s_ishr dX4_goes_26 ?_
      refine s_iconst (v := 1) dX4_goes_27 (by decide) ?_
      refine s_iand dX4_goes_28 ?_
      refine s_iconst (v := 1) dX4_goes_29 (by decide) ?_
      refine s_icne (tgt := 37) dX4_goes_30 (by decide) (fun c_30 => ?_) (fun c_30 => ?_)
      · skip
        refine s_iconst (v := 0) dX4_goes_37 (by decide) ?_
        exact s_reti dX4_goes_38 rfl rfl ⟨congrArg (fun z => Sum.inl (some (Value.int z))) (Eq.symm (by unfold f_X4_goes; rw [if_pos c_7, if_pos c_16, if_neg c_30])), rfl⟩
      · skip
        refine s_iconst (v := 1) dX4_goes_33 (by decide) ?_
        refine s_goto (tgt := 38) dX4_goes_34 (by decide) ?_
        exact s_reti dX4_goes_38 rfl rfl ⟨congrArg (fun z => Sum.inl (some (Value.int z))) (Eq.symm (by unfold f_X4_goes; rw [if_pos c_7, if_pos c_16, if_pos c_30])), rfl⟩
def f_X4_flow (c : MC) (k : Nat) (y : Int32) : Int64 := if y ≤ (c.ai 12 k) then (if y = (c.ai 12 k) then (((c.aj 10 k) * (((c.ai 11 k) : Int32).toInt64)) / 10000) + (c.aj 10 k) else (((c.aj 10 k) * (((c.ai 11 k) : Int32).toInt64)) / 10000) + 0) else 0
set_option maxHeartbeats 4000000 in
theorem m_X4_flow {tm : Nat × Nat} {S : Sto} {w : MAd} {c : MC} {k : Nat} {y : Int32} (hW : MW S w c) (hk : k < 40) : Ev tm M_X4_flow [.ref w.mm, .int (nI k), .int y] S (Rt (some (.long (f_X4_flow c k y))) S) := by
  have hF : FrM S S := FrM.rf
  refine ev_in ok_X4_flow (Nat.le_of_ble_eq_true rfl) ?_
  refine s_iloadn dX4_flow_0 rfl rfl ?_
  refine s_aloadn dX4_flow_1 rfl rfl ?_
  refine s_getR (n := 73) dX4_flow_2 rfl hW.mm (fun _ _ _ => rfl) (hW.rr 12 (by decide)).1 ?_
  refine s_iloadn dX4_flow_5 rfl rfl ?_
  refine s_iald' (j := k) dX4_flow_6 ((hW.rr 12 (by decide)).2.1) rfl (by rw [(hW.rr 12 (by decide)).2.2]; exact hk) (by rw [(hW.rr 12 (by decide)).2.2]; decide) ?_
  rw [hW.ai 12 (by decide)]
  refine s_icle (tgt := 14) dX4_flow_7 (by decide) (fun c_7 => ?_) (fun c_7 => ?_)
  · skip
    refine s_aloadn dX4_flow_14 rfl rfl ?_
    refine s_getR (n := 71) dX4_flow_15 rfl hW.mm (fun _ _ _ => rfl) (hW.rr 10 (by decide)).1 ?_
    refine s_iloadn dX4_flow_18 rfl rfl ?_
    refine s_lald' (j := k) dX4_flow_19 (Or.inr (Or.inl (hW.rr 10 (by decide)).2.1)) rfl (by rw [(hW.rr 10 (by decide)).2.2]; exact hk) (by rw [(hW.rr 10 (by decide)).2.2]; decide) ?_
    rw [hW.aj 10 (by decide)]
    refine s_aloadn dX4_flow_20 rfl rfl ?_
    refine s_getR (n := 72) dX4_flow_21 rfl hW.mm (fun _ _ _ => rfl) (hW.rr 11 (by decide)).1 ?_
    refine s_iloadn dX4_flow_24 rfl rfl ?_
    refine s_iald' (j := k) dX4_flow_25 ((hW.rr 11 (by decide)).2.1) rfl (by rw [(hW.rr 11 (by decide)).2.2]; exact hk) (by rw [(hW.rr 11 (by decide)).2.2]; decide) ?_
    rw [hW.ai 11 (by decide)]
    refine s_i2l dX4_flow_26 ?_
    refine s_lmul dX4_flow_27 ?_
    refine s_ldc2 (v := 10000) dX4_flow_28 csl_RX4_146 ?_
    refine s_ldiv dX4_flow_31 (by decide) ?_
    refine s_iloadn dX4_flow_32 rfl rfl ?_
    refine s_aloadn dX4_flow_33 rfl rfl ?_
    refine s_getR (n := 73) dX4_flow_34 rfl hW.mm (fun _ _ _ => rfl) (hW.rr 12 (by decide)).1 ?_
    refine s_iloadn dX4_flow_37 rfl rfl ?_
    refine s_iald' (j := k) dX4_flow_38 ((hW.rr 12 (by decide)).2.1) rfl (by rw [(hW.rr 12 (by decide)).2.2]; exact hk) (by rw [(hW.rr 12 (by decide)).2.2]; decide) ?_
    rw [hW.ai 12 (by decide)]
    refine s_icne (tgt := 51) dX4_flow_39 (by decide) (fun c_39 => ?_) (fun c_39 => ?_)
    · skip
      refine s_lconst (v := 0) dX4_flow_51 (by decide) ?_
      refine s_ladd dX4_flow_52 ?_
      exact s_retl dX4_flow_53 rfl ⟨congrArg (fun z => Sum.inl (some (Value.long z))) (Eq.symm (by unfold f_X4_flow; rw [if_pos c_7, if_neg c_39])), rfl⟩
    · skip
      refine s_aloadn dX4_flow_42 rfl rfl ?_
      refine s_getR (n := 71) dX4_flow_43 rfl hW.mm (fun _ _ _ => rfl) (hW.rr 10 (by decide)).1 ?_
      refine s_iloadn dX4_flow_46 rfl rfl ?_
      refine s_lald' (j := k) dX4_flow_47 (Or.inr (Or.inl (hW.rr 10 (by decide)).2.1)) rfl (by rw [(hW.rr 10 (by decide)).2.2]; exact hk) (by rw [(hW.rr 10 (by decide)).2.2]; decide) ?_
      rw [hW.aj 10 (by decide)]
      refine s_goto (tgt := 52) dX4_flow_48 (by decide) ?_
      refine s_ladd dX4_flow_52 ?_
      exact s_retl dX4_flow_53 rfl ⟨congrArg (fun z => Sum.inl (some (Value.long z))) (Eq.symm (by unfold f_X4_flow; rw [if_pos c_7, if_pos c_39])), rfl⟩
  · skip
    refine s_lconst (v := 0) dX4_flow_10 (by decide) ?_
    refine s_goto (tgt := 53) dX4_flow_11 (by decide) ?_
    exact s_retl dX4_flow_53 rfl ⟨congrArg (fun z => Sum.inl (some (Value.long z))) (Eq.symm (by unfold f_X4_flow; rw [if_neg c_7])), rfl⟩
def g_X4_valueBy (c : MC) (p : Int64) (q du r : Int32) : Nat → Int64
  | 0 => 0
  | k + 1 => if (du - nI k) = du then (((g_X4_valueBy c p q du r k) + (((p * ((q : Int32).toInt64)) / 10000) + p)) * 10000) / ((10000 + r : Int32).toInt64) else (((g_X4_valueBy c p q du r k) + (((p * ((q : Int32).toInt64)) / 10000) + 0)) * 10000) / ((10000 + r : Int32).toInt64)
theorem g_X4_valueBy_s {c : MC} {p : Int64} {q du r : Int32} {k : Nat} : g_X4_valueBy c p q du r (k + 1) = (if (du - nI k) = du then (((g_X4_valueBy c p q du r k) + (((p * ((q : Int32).toInt64)) / 10000) + p)) * 10000) / ((10000 + r : Int32).toInt64) else (((g_X4_valueBy c p q du r k) + (((p * ((q : Int32).toInt64)) / 10000) + 0)) * 10000) / ((10000 + r : Int32).toInt64) : Int64) := rfl
def f_X4_valueBy (c : MC) (p : Int64) (q du r : Int32) : Int64 := (g_X4_valueBy c p q du r (ix (du - c.ti 1)))
set_option maxHeartbeats 4000000 in
theorem m_X4_valueBy {tm : Nat × Nat} {S : Sto} {w : MAd} {c : MC} {p : Int64} {q du r : Int32} (hW : MW S w c) (hy : 0 ≤ (c.ti 1).toInt ∧ (c.ti 1).toInt ≤ 100) (hd : 0 ≤ du.toInt ∧ du.toInt ≤ 200) (hz : ¬ ((10000 + r : Int32).toInt64) = 0) : Ev tm M_X4_valueBy [.ref w.mm, .long p, .int q, .int du, .int r] S (Rt (some (.long (f_X4_valueBy c p q du r))) S) := by
  have hF : FrM S S := FrM.rf
  refine ev_in ok_X4_valueBy (Nat.le_of_ble_eq_true rfl) ?_
  refine s_lconst (v := 0) dX4_valueBy_0 (by decide) ?_
  refine s_lstore dX4_valueBy_1 (by decide) ?_
  refine s_iload dX4_valueBy_3 rfl ?_
  refine s_istore dX4_valueBy_5 (by decide) ?_
  have LP_7 : ∀ (d k : Nat), k + d = (ix (du - c.ti 1)) → Wp (Ev tm) tm M_X4_valueBy (Rt (some (.long (f_X4_valueBy c p q du r))) S) 7 [(0, .ref w.mm), (1, .long p), (3, .int q), (4, .int du), (5, .int r), (6, .long (g_X4_valueBy c p q du r k)), (8, .int (du - nI k))] [] 0 0 S := by
    intro d
    induction d with
    | zero =>
      intro k hkd
      have hkn : k = (ix (du - c.ti 1)) := by omega
      subst hkn
      refine s_iload dX4_valueBy_7 rfl ?_
      refine s_aloadn dX4_valueBy_9 rfl rfl ?_
      refine s_get (v := .int (c.ti 1)) (n := 62) dX4_valueBy_10 rfl hW.mm (congrArg Value.int (congrFun hW.ti 1)) ?_
      refine s_icle (tgt := 64) dX4_valueBy_13 (by decide) (fun _ => ?_) (fun c => absurd (vb_z hy hd) c)
      refine s_lload dX4_valueBy_64 rfl ?_
      exact s_retl dX4_valueBy_66 rfl ⟨congrArg (fun z => Sum.inl (some (Value.long z))) (Eq.symm (by unfold f_X4_valueBy; rfl)), rfl⟩
    | succ d ih =>
      intro k hkd
      have hlt : k < (ix (du - c.ti 1)) := by omega
      refine s_iload dX4_valueBy_7 rfl ?_
      refine s_aloadn dX4_valueBy_9 rfl rfl ?_
      refine s_get (v := .int (c.ti 1)) (n := 62) dX4_valueBy_10 rfl hW.mm (congrArg Value.int (congrFun hW.ti 1)) ?_
      refine s_icle (tgt := 64) dX4_valueBy_13 (by decide) (fun c => absurd c (vb_m hy hd hlt)) (fun _ => ?_)
      refine s_lloadn dX4_valueBy_16 rfl rfl ?_
      refine s_iloadn dX4_valueBy_17 rfl rfl ?_
      refine s_i2l dX4_valueBy_18 ?_
      refine s_lmul dX4_valueBy_19 ?_
      refine s_ldc2 (v := 10000) dX4_valueBy_20 csl_RX4_146 ?_
      refine s_ldiv dX4_valueBy_23 (by decide) ?_
      refine s_iload dX4_valueBy_24 rfl ?_
      refine s_iload dX4_valueBy_26 rfl ?_
      refine s_icne (tgt := 35) dX4_valueBy_28 (by decide) (fun c_28 => ?_) (fun c_28 => ?_)
      · skip
        refine s_lconst (v := 0) dX4_valueBy_35 (by decide) ?_
        refine s_ladd dX4_valueBy_36 ?_
        refine s_lstore dX4_valueBy_37 (by decide) ?_
        refine s_lload dX4_valueBy_39 rfl ?_
        refine s_lload dX4_valueBy_41 rfl ?_
        refine s_ladd dX4_valueBy_43 ?_
        refine s_ldc2 (v := 10000) dX4_valueBy_44 csl_RX4_146 ?_
        refine s_lmul dX4_valueBy_47 ?_
        refine s_sipush (v := 10000) dX4_valueBy_48 (by decide) ?_
        refine s_iload dX4_valueBy_51 rfl ?_
        refine s_iadd dX4_valueBy_53 ?_
        refine s_i2l dX4_valueBy_54 ?_
        refine s_ldiv dX4_valueBy_55 hz ?_
        refine s_lstore dX4_valueBy_56 (by decide) ?_
        refine s_iinc (v := (du - nI k) + (-1)) dX4_valueBy_58 rfl (by rfl) (by decide) ?_
        refine s_goto (tgt := 7) dX4_valueBy_61 (by decide) ?_
        exact s_sub (lo' := [(0, .ref w.mm), (1, .long p), (3, .int q), (4, .int du), (5, .int r), (6, .long (g_X4_valueBy c p q du r (k + 1))), (8, .int (du - nI (k + 1)))]) (List.forall_mem_cons.mpr ⟨rfl, List.forall_mem_cons.mpr ⟨rfl, List.forall_mem_cons.mpr ⟨rfl, List.forall_mem_cons.mpr ⟨rfl, List.forall_mem_cons.mpr ⟨rfl, List.forall_mem_cons.mpr ⟨congrArg (fun z => some (Value.long z)) (Eq.symm (by rw [g_X4_valueBy_s, if_neg c_28])), List.forall_mem_cons.mpr ⟨congrArg (fun z => some (Value.int z)) (dn_s), fun _ h => absurd h List.not_mem_nil⟩⟩⟩⟩⟩⟩⟩) (Nat.zero_le _) (Nat.zero_le _) (ih (k + 1) (by omega))
      · skip
        refine s_lloadn dX4_valueBy_31 rfl rfl ?_
        refine s_goto (tgt := 36) dX4_valueBy_32 (by decide) ?_
        refine s_ladd dX4_valueBy_36 ?_
        refine s_lstore dX4_valueBy_37 (by decide) ?_
        refine s_lload dX4_valueBy_39 rfl ?_
        refine s_lload dX4_valueBy_41 rfl ?_
        refine s_ladd dX4_valueBy_43 ?_
        refine s_ldc2 (v := 10000) dX4_valueBy_44 csl_RX4_146 ?_
        refine s_lmul dX4_valueBy_47 ?_
        refine s_sipush (v := 10000) dX4_valueBy_48 (by decide) ?_
        refine s_iload dX4_valueBy_51 rfl ?_
        refine s_iadd dX4_valueBy_53 ?_
        refine s_i2l dX4_valueBy_54 ?_
        refine s_ldiv dX4_valueBy_55 hz ?_
        refine s_lstore dX4_valueBy_56 (by decide) ?_
        refine s_iinc (v := (du - nI k) + (-1)) dX4_valueBy_58 rfl (by rfl) (by decide) ?_
        refine s_goto (tgt := 7) dX4_valueBy_61 (by decide) ?_
        exact s_sub (lo' := [(0, .ref w.mm), (1, .long p), (3, .int q), (4, .int du), (5, .int r), (6, .long (g_X4_valueBy c p q du r (k + 1))), (8, .int (du - nI (k + 1)))]) (List.forall_mem_cons.mpr ⟨rfl, List.forall_mem_cons.mpr ⟨rfl, List.forall_mem_cons.mpr ⟨rfl, List.forall_mem_cons.mpr ⟨rfl, List.forall_mem_cons.mpr ⟨rfl, List.forall_mem_cons.mpr ⟨congrArg (fun z => some (Value.long z)) (Eq.symm (by rw [g_X4_valueBy_s, if_pos c_28])), List.forall_mem_cons.mpr ⟨congrArg (fun z => some (Value.int z)) (dn_s), fun _ h => absurd h List.not_mem_nil⟩⟩⟩⟩⟩⟩⟩) (Nat.zero_le _) (Nat.zero_le _) (ih (k + 1) (by omega))
  exact s_sub (lo' := [(0, .ref w.mm), (1, .long p), (3, .int q), (4, .int du), (5, .int r), (6, .long (g_X4_valueBy c p q du r 0)), (8, .int (du - nI 0))]) (List.forall_mem_cons.mpr ⟨rfl, List.forall_mem_cons.mpr ⟨rfl, List.forall_mem_cons.mpr ⟨rfl, List.forall_mem_cons.mpr ⟨rfl, List.forall_mem_cons.mpr ⟨rfl, List.forall_mem_cons.mpr ⟨rfl, List.forall_mem_cons.mpr ⟨congrArg (fun z => some (Value.int z)) dn_0, fun _ h => absurd h List.not_mem_nil⟩⟩⟩⟩⟩⟩⟩) (Nat.zero_le _) (Nat.zero_le _) (LP_7 (ix (du - c.ti 1)) 0 (by omega))
def f_X4_valueOf (c : MC) (k : Nat) (r : Int32) : Int64 := if (c.ai 16 k) = 0 then (f_X4_valueBy c (c.aj 10 k) (c.ai 11 k) (c.ai 12 k) r) + (c.aj 17 k) else 0
set_option maxHeartbeats 4000000 in
theorem m_X4_valueOf {tm : Nat × Nat} {S : Sto} {w : MAd} {c : MC} {k : Nat} {r : Int32} (hW : MW S w c) (hk : k < 40) (hy : 0 ≤ (c.ti 1).toInt ∧ (c.ti 1).toInt ≤ 100) (hd : 0 ≤ (c.ai 12 k).toInt ∧ (c.ai 12 k).toInt ≤ 200) (hz : ¬ ((10000 + r : Int32).toInt64) = 0) : Ev tm M_X4_valueOf [.ref w.mm, .int (nI k), .int r] S (Rt (some (.long (f_X4_valueOf c k r))) S) := by
  have hF : FrM S S := FrM.rf
  refine ev_in ok_X4_valueOf (Nat.le_of_ble_eq_true rfl) ?_
  refine s_aloadn dX4_valueOf_0 rfl rfl ?_
  refine s_getR (n := 77) dX4_valueOf_1 rfl hW.mm (fun _ _ _ => rfl) (hW.rr 16 (by decide)).1 ?_
  refine s_iloadn dX4_valueOf_4 rfl rfl ?_
  refine s_iald' (j := k) dX4_valueOf_5 ((hW.rr 16 (by decide)).2.1) rfl (by rw [(hW.rr 16 (by decide)).2.2]; exact hk) (by rw [(hW.rr 16 (by decide)).2.2]; decide) ?_
  rw [hW.ai 16 (by decide)]
  refine s_ifne (tgt := 42) dX4_valueOf_6 (by decide) (fun c_6 => ?_) (fun c_6 => ?_)
  · skip
    refine s_lconst (v := 0) dX4_valueOf_42 (by decide) ?_
    exact s_retl dX4_valueOf_43 rfl ⟨congrArg (fun z => Sum.inl (some (Value.long z))) (Eq.symm (by unfold f_X4_valueOf; rw [if_neg c_6])), rfl⟩
  · skip
    refine s_aloadn dX4_valueOf_9 rfl rfl ?_
    refine s_aloadn dX4_valueOf_10 rfl rfl ?_
    refine s_getR (n := 71) dX4_valueOf_11 rfl hW.mm (fun _ _ _ => rfl) (hW.rr 10 (by decide)).1 ?_
    refine s_iloadn dX4_valueOf_14 rfl rfl ?_
    refine s_lald' (j := k) dX4_valueOf_15 (Or.inr (Or.inl (hW.rr 10 (by decide)).2.1)) rfl (by rw [(hW.rr 10 (by decide)).2.2]; exact hk) (by rw [(hW.rr 10 (by decide)).2.2]; decide) ?_
    rw [hW.aj 10 (by decide)]
    refine s_aloadn dX4_valueOf_16 rfl rfl ?_
    refine s_getR (n := 72) dX4_valueOf_17 rfl hW.mm (fun _ _ _ => rfl) (hW.rr 11 (by decide)).1 ?_
    refine s_iloadn dX4_valueOf_20 rfl rfl ?_
    refine s_iald' (j := k) dX4_valueOf_21 ((hW.rr 11 (by decide)).2.1) rfl (by rw [(hW.rr 11 (by decide)).2.2]; exact hk) (by rw [(hW.rr 11 (by decide)).2.2]; decide) ?_
    rw [hW.ai 11 (by decide)]
    refine s_aloadn dX4_valueOf_22 rfl rfl ?_
    refine s_getR (n := 73) dX4_valueOf_23 rfl hW.mm (fun _ _ _ => rfl) (hW.rr 12 (by decide)).1 ?_
    refine s_iloadn dX4_valueOf_26 rfl rfl ?_
    refine s_iald' (j := k) dX4_valueOf_27 ((hW.rr 12 (by decide)).2.1) rfl (by rw [(hW.rr 12 (by decide)).2.2]; exact hk) (by rw [(hW.rr 12 (by decide)).2.2]; decide) ?_
    rw [hW.ai 12 (by decide)]
    refine s_iloadn dX4_valueOf_28 rfl rfl ?_
    refine s_cv4R (n := 58) dX4_valueOf_29 rfl (kv hW.mm (by decide) rfl) rfl (by decide) (by decide) (by decide) (by decide) (Nat.le_of_ble_eq_true rfl) (m_X4_valueBy hW hy hd hz) ?_
    refine s_aloadn dX4_valueOf_32 rfl rfl ?_
    refine s_getR (n := 78) dX4_valueOf_33 rfl hW.mm (fun _ _ _ => rfl) (hW.rr 17 (by decide)).1 ?_
    refine s_iloadn dX4_valueOf_36 rfl rfl ?_
    refine s_lald' (j := k) dX4_valueOf_37 (Or.inr (Or.inl (hW.rr 17 (by decide)).2.1)) rfl (by rw [(hW.rr 17 (by decide)).2.2]; exact hk) (by rw [(hW.rr 17 (by decide)).2.2]; decide) ?_
    rw [hW.aj 17 (by decide)]
    refine s_ladd dX4_valueOf_38 ?_
    refine s_goto (tgt := 43) dX4_valueOf_39 (by decide) ?_
    exact s_retl dX4_valueOf_43 rfl ⟨congrArg (fun z => Sum.inl (some (Value.long z))) (Eq.symm (by unfold f_X4_valueOf; rw [if_pos c_6])), rfl⟩
def f_X4_cutOf (c : MC) (k j : Nat) : Int64 := ((f_X4_owed c k) * ((100 - (c.ai 24 j) : Int32).toInt64)) / 100
set_option maxHeartbeats 4000000 in
theorem m_X4_cutOf {tm : Nat × Nat} {S : Sto} {w : MAd} {c : MC} {k j : Nat} (hW : MW S w c) (hk : k < 40) (hj : j < 12) : Ev tm M_X4_cutOf [.ref w.mm, .int (nI k), .int (nI j)] S (Rt (some (.long (f_X4_cutOf c k j))) S) := by
  have hF : FrM S S := FrM.rf
  refine ev_in ok_X4_cutOf (Nat.le_of_ble_eq_true rfl) ?_
  refine s_aloadn dX4_cutOf_0 rfl rfl ?_
  refine s_iloadn dX4_cutOf_1 rfl rfl ?_
  refine s_cv1R (n := 52) dX4_cutOf_2 rfl (kv hW.mm (by decide) rfl) rfl (by decide) (by decide) (by decide) (by decide) (Nat.le_of_ble_eq_true rfl) (m_X4_owed hW hk) ?_
  refine s_bipush (v := 100) dX4_cutOf_5 (by decide) ?_
  refine s_aloadn dX4_cutOf_7 rfl rfl ?_
  refine s_getR (n := 85) dX4_cutOf_8 rfl hW.mm (fun _ _ _ => rfl) (hW.rr 24 (by decide)).1 ?_
  refine s_iloadn dX4_cutOf_11 rfl rfl ?_
  refine s_iald' (j := j) dX4_cutOf_12 ((hW.rr 24 (by decide)).2.1) rfl (by rw [(hW.rr 24 (by decide)).2.2]; exact hj) (by rw [(hW.rr 24 (by decide)).2.2]; decide) ?_
  rw [hW.ai 24 (by decide)]
  refine s_isub dX4_cutOf_13 ?_
  refine s_i2l dX4_cutOf_14 ?_
  refine s_lmul dX4_cutOf_15 ?_
  refine s_ldc2 (v := 100) dX4_cutOf_16 csl_RX4_174 ?_
  refine s_ldiv dX4_cutOf_19 (by decide) ?_
  exact s_retl dX4_cutOf_20 rfl ⟨congrArg (fun z => Sum.inl (some (Value.long z))) (Eq.symm (by unfold f_X4_cutOf; rfl)), rfl⟩
def f_X4_effortOf (c : MC) (k : Nat) : Int32 := if (c.aj 29 k) = 0 then 0 else (10000 - ((10000 * (c.aj 30 k)) / (c.aj 29 k)) : Int64).toInt32
set_option maxHeartbeats 4000000 in
theorem m_X4_effortOf {tm : Nat × Nat} {S : Sto} {w : MAd} {c : MC} {k : Nat} (hW : MW S w c) (hk : k < 5) : Ev tm M_X4_effortOf [.ref w.mm, .int (nI k)] S (Rt (some (.int (f_X4_effortOf c k))) S) := by
  have hF : FrM S S := FrM.rf
  refine ev_in ok_X4_effortOf (Nat.le_of_ble_eq_true rfl) ?_
  refine s_aloadn dX4_effortOf_0 rfl rfl ?_
  refine s_getR (n := 90) dX4_effortOf_1 rfl hW.mm (fun _ _ _ => rfl) (hW.rr 29 (by decide)).1 ?_
  refine s_iloadn dX4_effortOf_4 rfl rfl ?_
  refine s_lald' (j := k) dX4_effortOf_5 (Or.inr (Or.inl (hW.rr 29 (by decide)).2.1)) rfl (by rw [(hW.rr 29 (by decide)).2.2]; exact hk) (by rw [(hW.rr 29 (by decide)).2.2]; decide) ?_
  rw [hW.aj 29 (by decide)]
  refine s_lconst (v := 0) dX4_effortOf_6 (by decide) ?_
  refine s_lcne (tgt := 15) dX4_effortOf_7 dX4_effortOf_8 (by decide) (fun c_7 => ?_) (fun c_7 => ?_)
  · skip
    refine s_ldc2 (v := 10000) dX4_effortOf_15 csl_RX4_146 ?_
    refine s_ldc2 (v := 10000) dX4_effortOf_18 csl_RX4_146 ?_
    refine s_aloadn dX4_effortOf_21 rfl rfl ?_
    refine s_getR (n := 91) dX4_effortOf_22 rfl hW.mm (fun _ _ _ => rfl) (hW.rr 30 (by decide)).1 ?_
    refine s_iloadn dX4_effortOf_25 rfl rfl ?_
    refine s_lald' (j := k) dX4_effortOf_26 (Or.inr (Or.inl (hW.rr 30 (by decide)).2.1)) rfl (by rw [(hW.rr 30 (by decide)).2.2]; exact hk) (by rw [(hW.rr 30 (by decide)).2.2]; decide) ?_
    rw [hW.aj 30 (by decide)]
    refine s_lmul dX4_effortOf_27 ?_
    refine s_aloadn dX4_effortOf_28 rfl rfl ?_
    refine s_getR (n := 90) dX4_effortOf_29 rfl hW.mm (fun _ _ _ => rfl) (hW.rr 29 (by decide)).1 ?_
    refine s_iloadn dX4_effortOf_32 rfl rfl ?_
    refine s_lald' (j := k) dX4_effortOf_33 (Or.inr (Or.inl (hW.rr 29 (by decide)).2.1)) rfl (by rw [(hW.rr 29 (by decide)).2.2]; exact hk) (by rw [(hW.rr 29 (by decide)).2.2]; decide) ?_
    rw [hW.aj 29 (by decide)]
    refine s_ldiv dX4_effortOf_34 c_7 ?_
    refine s_lsub dX4_effortOf_35 ?_
    refine s_l2i dX4_effortOf_36 ?_
    exact s_reti dX4_effortOf_37 rfl rfl ⟨congrArg (fun z => Sum.inl (some (Value.int z))) (Eq.symm (by unfold f_X4_effortOf; rw [if_neg c_7])), rfl⟩
  · skip
    refine s_iconst (v := 0) dX4_effortOf_11 (by decide) ?_
    refine s_goto (tgt := 37) dX4_effortOf_12 (by decide) ?_
    exact s_reti dX4_effortOf_37 rfl rfl ⟨congrArg (fun z => Sum.inl (some (Value.int z))) (Eq.symm (by unfold f_X4_effortOf; rw [if_pos c_7])), rfl⟩
def g_X4_failing (c : MC) : Nat → Int32 × Int64 × Int64
  | 0 => (0, 0, 0)
  | k + 1 => if ((g_X4_failing c k).1) = 0 then (if (c.ai 16 k) = 0 then (if (c.ai 8 k) = 4 then (if (c.aj 17 k) ≤ 0 then (if (c.ai 16 k) = 0 then (if (c.ai 8 k) = 0 then (if (c.ai 15 k) = 0 then (if (c.ai 37 (ix (c.ai 9 k))) = 0 then (0, ((g_X4_failing c k).2.1) + (f_X4_owed c k), ((g_X4_failing c k).2.2) + 0) else (0, ((g_X4_failing c k).2.1) + (f_X4_owed c k), ((g_X4_failing c k).2.2) + (f_X4_owed c k))) else (0, (g_X4_failing c k).2.1, (g_X4_failing c k).2.2)) else (if (c.ai 8 k) = 2 then (if (c.ai 15 k) = 0 then (if (c.ai 37 (ix (c.ai 9 k))) = 0 then (0, ((g_X4_failing c k).2.1) + (f_X4_owed c k), ((g_X4_failing c k).2.2) + 0) else (0, ((g_X4_failing c k).2.1) + (f_X4_owed c k), ((g_X4_failing c k).2.2) + (f_X4_owed c k))) else (0, (g_X4_failing c k).2.1, (g_X4_failing c k).2.2)) else (0, (g_X4_failing c k).2.1, (g_X4_failing c k).2.2))) else (0, (g_X4_failing c k).2.1, (g_X4_failing c k).2.2)) else (if (c.ai 16 k) = 0 then (if (c.ai 8 k) = 0 then (if (c.ai 15 k) = 0 then (if (c.ai 37 (ix (c.ai 9 k))) = 0 then (1, ((g_X4_failing c k).2.1) + (f_X4_owed c k), ((g_X4_failing c k).2.2) + 0) else (1, ((g_X4_failing c k).2.1) + (f_X4_owed c k), ((g_X4_failing c k).2.2) + (f_X4_owed c k))) else (1, (g_X4_failing c k).2.1, (g_X4_failing c k).2.2)) else (if (c.ai 8 k) = 2 then (if (c.ai 15 k) = 0 then (if (c.ai 37 (ix (c.ai 9 k))) = 0 then (1, ((g_X4_failing c k).2.1) + (f_X4_owed c k), ((g_X4_failing c k).2.2) + 0) else (1, ((g_X4_failing c k).2.1) + (f_X4_owed c k), ((g_X4_failing c k).2.2) + (f_X4_owed c k))) else (1, (g_X4_failing c k).2.1, (g_X4_failing c k).2.2)) else (1, (g_X4_failing c k).2.1, (g_X4_failing c k).2.2))) else (1, (g_X4_failing c k).2.1, (g_X4_failing c k).2.2))) else (if (c.ai 16 k) = 0 then (if (c.ai 8 k) = 0 then (if (c.ai 15 k) = 0 then (if (c.ai 37 (ix (c.ai 9 k))) = 0 then (0, ((g_X4_failing c k).2.1) + (f_X4_owed c k), ((g_X4_failing c k).2.2) + 0) else (0, ((g_X4_failing c k).2.1) + (f_X4_owed c k), ((g_X4_failing c k).2.2) + (f_X4_owed c k))) else (0, (g_X4_failing c k).2.1, (g_X4_failing c k).2.2)) else (if (c.ai 8 k) = 2 then (if (c.ai 15 k) = 0 then (if (c.ai 37 (ix (c.ai 9 k))) = 0 then (0, ((g_X4_failing c k).2.1) + (f_X4_owed c k), ((g_X4_failing c k).2.2) + 0) else (0, ((g_X4_failing c k).2.1) + (f_X4_owed c k), ((g_X4_failing c k).2.2) + (f_X4_owed c k))) else (0, (g_X4_failing c k).2.1, (g_X4_failing c k).2.2)) else (0, (g_X4_failing c k).2.1, (g_X4_failing c k).2.2))) else (0, (g_X4_failing c k).2.1, (g_X4_failing c k).2.2))) else (if (c.ai 16 k) = 0 then (if (c.ai 8 k) = 0 then (if (c.ai 15 k) = 0 then (if (c.ai 37 (ix (c.ai 9 k))) = 0 then (0, ((g_X4_failing c k).2.1) + (f_X4_owed c k), ((g_X4_failing c k).2.2) + 0) else (0, ((g_X4_failing c k).2.1) + (f_X4_owed c k), ((g_X4_failing c k).2.2) + (f_X4_owed c k))) else (0, (g_X4_failing c k).2.1, (g_X4_failing c k).2.2)) else (if (c.ai 8 k) = 2 then (if (c.ai 15 k) = 0 then (if (c.ai 37 (ix (c.ai 9 k))) = 0 then (0, ((g_X4_failing c k).2.1) + (f_X4_owed c k), ((g_X4_failing c k).2.2) + 0) else (0, ((g_X4_failing c k).2.1) + (f_X4_owed c k), ((g_X4_failing c k).2.2) + (f_X4_owed c k))) else (0, (g_X4_failing c k).2.1, (g_X4_failing c k).2.2)) else (0, (g_X4_failing c k).2.1, (g_X4_failing c k).2.2))) else (0, (g_X4_failing c k).2.1, (g_X4_failing c k).2.2))) else (if (c.ai 16 k) = 0 then (if (c.ai 8 k) = 0 then (if (c.ai 15 k) = 0 then (if (c.ai 37 (ix (c.ai 9 k))) = 0 then (1, ((g_X4_failing c k).2.1) + (f_X4_owed c k), ((g_X4_failing c k).2.2) + 0) else (1, ((g_X4_failing c k).2.1) + (f_X4_owed c k), ((g_X4_failing c k).2.2) + (f_X4_owed c k))) else (1, (g_X4_failing c k).2.1, (g_X4_failing c k).2.2)) else (if (c.ai 8 k) = 2 then (if (c.ai 15 k) = 0 then (if (c.ai 37 (ix (c.ai 9 k))) = 0 then (1, ((g_X4_failing c k).2.1) + (f_X4_owed c k), ((g_X4_failing c k).2.2) + 0) else (1, ((g_X4_failing c k).2.1) + (f_X4_owed c k), ((g_X4_failing c k).2.2) + (f_X4_owed c k))) else (1, (g_X4_failing c k).2.1, (g_X4_failing c k).2.2)) else (1, (g_X4_failing c k).2.1, (g_X4_failing c k).2.2))) else (1, (g_X4_failing c k).2.1, (g_X4_failing c k).2.2))
theorem g_X4_failing_s {c : MC} {k : Nat} : g_X4_failing c (k + 1) = (if ((g_X4_failing c k).1) = 0 then (if (c.ai 16 k) = 0 then (if (c.ai 8 k) = 4 then (if (c.aj 17 k) ≤ 0 then (if (c.ai 16 k) = 0 then (if (c.ai 8 k) = 0 then (if (c.ai 15 k) = 0 then (if (c.ai 37 (ix (c.ai 9 k))) = 0 then (0, ((g_X4_failing c k).2.1) + (f_X4_owed c k), ((g_X4_failing c k).2.2) + 0) else (0, ((g_X4_failing c k).2.1) + (f_X4_owed c k), ((g_X4_failing c k).2.2) + (f_X4_owed c k))) else (0, (g_X4_failing c k).2.1, (g_X4_failing c k).2.2)) else (if (c.ai 8 k) = 2 then (if (c.ai 15 k) = 0 then (if (c.ai 37 (ix (c.ai 9 k))) = 0 then (0, ((g_X4_failing c k).2.1) + (f_X4_owed c k), ((g_X4_failing c k).2.2) + 0) else (0, ((g_X4_failing c k).2.1) + (f_X4_owed c k), ((g_X4_failing c k).2.2) + (f_X4_owed c k))) else (0, (g_X4_failing c k).2.1, (g_X4_failing c k).2.2)) else (0, (g_X4_failing c k).2.1, (g_X4_failing c k).2.2))) else (0, (g_X4_failing c k).2.1, (g_X4_failing c k).2.2)) else (if (c.ai 16 k) = 0 then (if (c.ai 8 k) = 0 then (if (c.ai 15 k) = 0 then (if (c.ai 37 (ix (c.ai 9 k))) = 0 then (1, ((g_X4_failing c k).2.1) + (f_X4_owed c k), ((g_X4_failing c k).2.2) + 0) else (1, ((g_X4_failing c k).2.1) + (f_X4_owed c k), ((g_X4_failing c k).2.2) + (f_X4_owed c k))) else (1, (g_X4_failing c k).2.1, (g_X4_failing c k).2.2)) else (if (c.ai 8 k) = 2 then (if (c.ai 15 k) = 0 then (if (c.ai 37 (ix (c.ai 9 k))) = 0 then (1, ((g_X4_failing c k).2.1) + (f_X4_owed c k), ((g_X4_failing c k).2.2) + 0) else (1, ((g_X4_failing c k).2.1) + (f_X4_owed c k), ((g_X4_failing c k).2.2) + (f_X4_owed c k))) else (1, (g_X4_failing c k).2.1, (g_X4_failing c k).2.2)) else (1, (g_X4_failing c k).2.1, (g_X4_failing c k).2.2))) else (1, (g_X4_failing c k).2.1, (g_X4_failing c k).2.2))) else (if (c.ai 16 k) = 0 then (if (c.ai 8 k) = 0 then (if (c.ai 15 k) = 0 then (if (c.ai 37 (ix (c.ai 9 k))) = 0 then (0, ((g_X4_failing c k).2.1) + (f_X4_owed c k), ((g_X4_failing c k).2.2) + 0) else (0, ((g_X4_failing c k).2.1) + (f_X4_owed c k), ((g_X4_failing c k).2.2) + (f_X4_owed c k))) else (0, (g_X4_failing c k).2.1, (g_X4_failing c k).2.2)) else (if (c.ai 8 k) = 2 then (if (c.ai 15 k) = 0 then (if (c.ai 37 (ix (c.ai 9 k))) = 0 then (0, ((g_X4_failing c k).2.1) + (f_X4_owed c k), ((g_X4_failing c k).2.2) + 0) else (0, ((g_X4_failing c k).2.1) + (f_X4_owed c k), ((g_X4_failing c k).2.2) + (f_X4_owed c k))) else (0, (g_X4_failing c k).2.1, (g_X4_failing c k).2.2)) else (0, (g_X4_failing c k).2.1, (g_X4_failing c k).2.2))) else (0, (g_X4_failing c k).2.1, (g_X4_failing c k).2.2))) else (if (c.ai 16 k) = 0 then (if (c.ai 8 k) = 0 then (if (c.ai 15 k) = 0 then (if (c.ai 37 (ix (c.ai 9 k))) = 0 then (0, ((g_X4_failing c k).2.1) + (f_X4_owed c k), ((g_X4_failing c k).2.2) + 0) else (0, ((g_X4_failing c k).2.1) + (f_X4_owed c k), ((g_X4_failing c k).2.2) + (f_X4_owed c k))) else (0, (g_X4_failing c k).2.1, (g_X4_failing c k).2.2)) else (if (c.ai 8 k) = 2 then (if (c.ai 15 k) = 0 then (if (c.ai 37 (ix (c.ai 9 k))) = 0 then (0, ((g_X4_failing c k).2.1) + (f_X4_owed c k), ((g_X4_failing c k).2.2) + 0) else (0, ((g_X4_failing c k).2.1) + (f_X4_owed c k), ((g_X4_failing c k).2.2) + (f_X4_owed c k))) else (0, (g_X4_failing c k).2.1, (g_X4_failing c k).2.2)) else (0, (g_X4_failing c k).2.1, (g_X4_failing c k).2.2))) else (0, (g_X4_failing c k).2.1, (g_X4_failing c k).2.2))) else (if (c.ai 16 k) = 0 then (if (c.ai 8 k) = 0 then (if (c.ai 15 k) = 0 then (if (c.ai 37 (ix (c.ai 9 k))) = 0 then (1, ((g_X4_failing c k).2.1) + (f_X4_owed c k), ((g_X4_failing c k).2.2) + 0) else (1, ((g_X4_failing c k).2.1) + (f_X4_owed c k), ((g_X4_failing c k).2.2) + (f_X4_owed c k))) else (1, (g_X4_failing c k).2.1, (g_X4_failing c k).2.2)) else (if (c.ai 8 k) = 2 then (if (c.ai 15 k) = 0 then (if (c.ai 37 (ix (c.ai 9 k))) = 0 then (1, ((g_X4_failing c k).2.1) + (f_X4_owed c k), ((g_X4_failing c k).2.2) + 0) else (1, ((g_X4_failing c k).2.1) + (f_X4_owed c k), ((g_X4_failing c k).2.2) + (f_X4_owed c k))) else (1, (g_X4_failing c k).2.1, (g_X4_failing c k).2.2)) else (1, (g_X4_failing c k).2.1, (g_X4_failing c k).2.2))) else (1, (g_X4_failing c k).2.1, (g_X4_failing c k).2.2)) : Int32 × Int64 × Int64) := rfl
def f_X4_failing (n : Nat) (c : MC) : Int32 := if (c.ti 35) ≤ (c.ti 5) then (if ((g_X4_failing c n).1) = 0 then (if ((g_X4_failing c n).2.1) ≤ (2 * ((g_X4_failing c n).2.2)) then 0 else 3) else 2) else 1
set_option maxHeartbeats 4000000 in
theorem m_X4_failing {tm : Nat × Nat} {S : Sto} {w : MAd} {c : MC} {n : Nat} (hW : MW S w c) (hcl : c.ti 7 = nI n) (hn : n ≤ 40) (hL : ∀ i, i < n → inr (c.ai 9 i) 8) : Ev tm M_X4_failing [.ref w.mm] S (Rt (some (.int (f_X4_failing n c))) S) := by
  have hF : FrM S S := FrM.rf
  refine ev_in ok_X4_failing (Nat.le_of_ble_eq_true rfl) ?_
  refine s_iconst (v := 0) dX4_failing_0 (by decide) ?_
  refine s_istoren dX4_failing_1 rfl (by decide) ?_
  refine s_lconst (v := 0) dX4_failing_2 (by decide) ?_
  refine s_lstoren dX4_failing_3 rfl (by decide) ?_
  refine s_lconst (v := 0) dX4_failing_4 (by decide) ?_
  refine s_lstore dX4_failing_5 (by decide) ?_
  refine s_iconst (v := 0) dX4_failing_7 (by decide) ?_
  refine s_istore dX4_failing_8 (by decide) ?_
  have LP_10 : ∀ (d k : Nat), k + d = n → Wp (Ev tm) tm M_X4_failing (Rt (some (.int (f_X4_failing n c))) S) 10 [(0, .ref w.mm), (1, .int ((g_X4_failing c k).1)), (2, .long ((g_X4_failing c k).2.1)), (4, .long ((g_X4_failing c k).2.2)), (6, .int (nI k))] [] 0 0 S := by
    intro d
    induction d with
    | zero =>
      intro k hkd
      have hkn : k = n := by omega
      subst hkn
      refine s_iload dX4_failing_10 rfl ?_
      refine s_aloadn dX4_failing_12 rfl rfl ?_
      refine s_get (v := .int (c.ti 7)) (n := 68) dX4_failing_13 rfl hW.mm (congrArg Value.int (congrFun hW.ti 7)) ?_
      refine s_icge (tgt := 148) dX4_failing_16 (by decide) (fun _ => ?_) (fun c => absurd (by rw [hcl]; exact Int32.le_refl _) c)
      refine s_aloadn dX4_failing_148 rfl rfl ?_
      refine s_get (v := .int (c.ti 5)) (n := 66) dX4_failing_149 rfl hW.mm (congrArg Value.int (congrFun hW.ti 5)) ?_
      refine s_aloadn dX4_failing_152 rfl rfl ?_
      refine s_get (v := .int (c.ti 35)) (n := 96) dX4_failing_153 rfl hW.mm (congrArg Value.int (congrFun hW.ti 35)) ?_
      refine s_icge (tgt := 163) dX4_failing_156 (by decide) (fun c_156 => ?_) (fun c_156 => ?_)
      · skip
        refine s_iloadn dX4_failing_163 rfl rfl ?_
        refine s_ifeq (tgt := 171) dX4_failing_164 (by decide) (fun c_164 => ?_) (fun c_164 => ?_)
        · skip
          refine s_ldc2 (v := 2) dX4_failing_171 csl_RX4_225 ?_
          refine s_lload dX4_failing_174 rfl ?_
          refine s_lmul dX4_failing_176 ?_
          refine s_lloadn dX4_failing_177 rfl rfl ?_
          refine s_lcge (tgt := 186) dX4_failing_178 dX4_failing_179 (by decide) (fun c_178 => ?_) (fun c_178 => ?_)
          · skip
            refine s_iconst (v := 0) dX4_failing_186 (by decide) ?_
            exact s_reti dX4_failing_187 rfl rfl ⟨congrArg (fun z => Sum.inl (some (Value.int z))) (Eq.symm (by unfold f_X4_failing; rw [if_pos c_156, if_pos c_164, if_pos c_178])), rfl⟩
          · skip
            refine s_iconst (v := 3) dX4_failing_182 (by decide) ?_
            refine s_goto (tgt := 187) dX4_failing_183 (by decide) ?_
            exact s_reti dX4_failing_187 rfl rfl ⟨congrArg (fun z => Sum.inl (some (Value.int z))) (Eq.symm (by unfold f_X4_failing; rw [if_pos c_156, if_pos c_164, if_neg c_178])), rfl⟩
        · skip
          refine s_iconst (v := 2) dX4_failing_167 (by decide) ?_
          refine s_goto (tgt := 187) dX4_failing_168 (by decide) ?_
          exact s_reti dX4_failing_187 rfl rfl ⟨congrArg (fun z => Sum.inl (some (Value.int z))) (Eq.symm (by unfold f_X4_failing; rw [if_pos c_156, if_neg c_164])), rfl⟩
      · skip
        refine s_iconst (v := 1) dX4_failing_159 (by decide) ?_
        refine s_goto (tgt := 187) dX4_failing_160 (by decide) ?_
        exact s_reti dX4_failing_187 rfl rfl ⟨congrArg (fun z => Sum.inl (some (Value.int z))) (Eq.symm (by unfold f_X4_failing; rw [if_neg c_156])), rfl⟩
    | succ d ih =>
      intro k hkd
      have hlt : k < n := by omega
      refine s_iload dX4_failing_10 rfl ?_
      refine s_aloadn dX4_failing_12 rfl rfl ?_
      refine s_get (v := .int (c.ti 7)) (n := 68) dX4_failing_13 rfl hW.mm (congrArg Value.int (congrFun hW.ti 7)) ?_
      refine s_icge (tgt := 148) dX4_failing_16 (by decide) (fun c => absurd c (by rw [hcl]; exact nI_ge hlt (by omega))) (fun _ => ?_)
      refine s_iloadn dX4_failing_19 rfl rfl ?_
      refine s_ifne (tgt := 56) dX4_failing_20 (by decide) (fun c_20 => ?_) (fun c_20 => ?_)
      · skip
        refine s_iconst (v := 1) dX4_failing_56 (by decide) ?_
        refine s_goto (tgt := 61) dX4_failing_57 (by decide) ?_
        refine s_istoren dX4_failing_61 rfl (by decide) ?_
        refine s_aloadn dX4_failing_62 rfl rfl ?_
        refine s_getR (n := 77) dX4_failing_63 rfl hW.mm (fun _ _ _ => rfl) (hW.rr 16 (by decide)).1 ?_
        refine s_iload dX4_failing_66 rfl ?_
        refine s_iald' (j := k) dX4_failing_68 ((hW.rr 16 (by decide)).2.1) rfl (by rw [(hW.rr 16 (by decide)).2.2]; exact (Nat.lt_of_lt_of_le hlt hn)) (by rw [(hW.rr 16 (by decide)).2.2]; decide) ?_
        rw [hW.ai 16 (by decide)]
        refine s_ifne (tgt := 142) dX4_failing_69 (by decide) (fun c_69 => ?_) (fun c_69 => ?_)
        · skip
          refine s_iinc (v := (nI k) + 1) dX4_failing_142 rfl (by rfl) (by decide) ?_
          refine s_goto (tgt := 10) dX4_failing_145 (by decide) ?_
          exact s_sub (lo' := [(0, .ref w.mm), (1, .int ((g_X4_failing c (k + 1)).1)), (2, .long ((g_X4_failing c (k + 1)).2.1)), (4, .long ((g_X4_failing c (k + 1)).2.2)), (6, .int (nI (k + 1)))]) (List.forall_mem_cons.mpr ⟨rfl, List.forall_mem_cons.mpr ⟨congrArg (fun z => some (Value.int z)) (Eq.symm (by rw [g_X4_failing_s, if_neg c_20, if_neg c_69])), List.forall_mem_cons.mpr ⟨congrArg (fun z => some (Value.long z)) (Eq.symm (by rw [g_X4_failing_s, if_neg c_20, if_neg c_69])), List.forall_mem_cons.mpr ⟨congrArg (fun z => some (Value.long z)) (Eq.symm (by rw [g_X4_failing_s, if_neg c_20, if_neg c_69])), List.forall_mem_cons.mpr ⟨congrArg (fun z => some (Value.int z)) (nI_1 k), fun _ h => absurd h List.not_mem_nil⟩⟩⟩⟩⟩) (Nat.zero_le _) (Nat.zero_le _) (ih (k + 1) (by omega))
        · skip
          refine s_aloadn dX4_failing_72 rfl rfl ?_
          refine s_getR (n := 69) dX4_failing_73 rfl hW.mm (fun _ _ _ => rfl) (hW.rr 8 (by decide)).1 ?_
          refine s_iload dX4_failing_76 rfl ?_
          refine s_iald' (j := k) dX4_failing_78 ((hW.rr 8 (by decide)).2.1) rfl (by rw [(hW.rr 8 (by decide)).2.2]; exact (Nat.lt_of_lt_of_le hlt hn)) (by rw [(hW.rr 8 (by decide)).2.2]; decide) ?_
          rw [hW.ai 8 (by decide)]
          refine s_ifeq (tgt := 93) dX4_failing_79 (by decide) (fun c_79 => ?_) (fun c_79 => ?_)
          · skip
            refine s_aloadn dX4_failing_93 rfl rfl ?_
            refine s_getR (n := 76) dX4_failing_94 rfl hW.mm (fun _ _ _ => rfl) (hW.rr 15 (by decide)).1 ?_
            refine s_iload dX4_failing_97 rfl ?_
            refine s_zald' (j := k) dX4_failing_99 ((hW.rr 15 (by decide)).2.1) rfl (by rw [(hW.rr 15 (by decide)).2.2]; exact (Nat.lt_of_lt_of_le hlt hn)) (by rw [(hW.rr 15 (by decide)).2.2]; decide) ?_
            rw [hW.ai 15 (by decide)]
            refine s_ifne (tgt := 142) dX4_failing_100 (by decide) (fun c_100 => ?_) (fun c_100 => ?_)
            · skip
              refine s_iinc (v := (nI k) + 1) dX4_failing_142 rfl (by rfl) (by decide) ?_
              refine s_goto (tgt := 10) dX4_failing_145 (by decide) ?_
              exact s_sub (lo' := [(0, .ref w.mm), (1, .int ((g_X4_failing c (k + 1)).1)), (2, .long ((g_X4_failing c (k + 1)).2.1)), (4, .long ((g_X4_failing c (k + 1)).2.2)), (6, .int (nI (k + 1)))]) (List.forall_mem_cons.mpr ⟨rfl, List.forall_mem_cons.mpr ⟨congrArg (fun z => some (Value.int z)) (Eq.symm (by rw [g_X4_failing_s, if_neg c_20, if_pos c_69, if_pos c_79, if_neg c_100])), List.forall_mem_cons.mpr ⟨congrArg (fun z => some (Value.long z)) (Eq.symm (by rw [g_X4_failing_s, if_neg c_20, if_pos c_69, if_pos c_79, if_neg c_100])), List.forall_mem_cons.mpr ⟨congrArg (fun z => some (Value.long z)) (Eq.symm (by rw [g_X4_failing_s, if_neg c_20, if_pos c_69, if_pos c_79, if_neg c_100])), List.forall_mem_cons.mpr ⟨congrArg (fun z => some (Value.int z)) (nI_1 k), fun _ h => absurd h List.not_mem_nil⟩⟩⟩⟩⟩) (Nat.zero_le _) (Nat.zero_le _) (ih (k + 1) (by omega))
            · skip
              refine s_lloadn dX4_failing_103 rfl rfl ?_
              refine s_aloadn dX4_failing_104 rfl rfl ?_
              refine s_iload dX4_failing_105 rfl ?_
              refine s_cv1R (n := 52) dX4_failing_107 rfl (kv hW.mm (by decide) rfl) rfl (by decide) (by decide) (by decide) (by decide) (Nat.le_of_ble_eq_true rfl) (m_X4_owed hW (Nat.lt_of_lt_of_le hlt hn)) ?_
              refine s_ladd dX4_failing_110 ?_
              refine s_lstoren dX4_failing_111 rfl (by decide) ?_
              refine s_lload dX4_failing_112 rfl ?_
              refine s_aloadn dX4_failing_114 rfl rfl ?_
              refine s_getR (n := 98) dX4_failing_115 rfl hW.mm (fun _ _ _ => rfl) (hW.rr 37 (by decide)).1 ?_
              refine s_aloadn dX4_failing_118 rfl rfl ?_
              refine s_getR (n := 70) dX4_failing_119 rfl hW.mm (fun _ _ _ => rfl) (hW.rr 9 (by decide)).1 ?_
              refine s_iload dX4_failing_122 rfl ?_
              refine s_iald' (j := k) dX4_failing_124 ((hW.rr 9 (by decide)).2.1) rfl (by rw [(hW.rr 9 (by decide)).2.2]; exact (Nat.lt_of_lt_of_le hlt hn)) (by rw [(hW.rr 9 (by decide)).2.2]; decide) ?_
              rw [hW.ai 9 (by decide)]
              refine s_zald' (j := (ix (c.ai 9 k))) dX4_failing_125 ((hW.rr 37 (by decide)).2.1) (ix_nI (hL k hlt).1).symm (by rw [(hW.rr 37 (by decide)).2.2]; exact (ix_of (hL k hlt).1 (hL k hlt).2 (by decide))) (by rw [(hW.rr 37 (by decide)).2.2]; decide) ?_
              rw [hW.ai 37 (by decide)]
              refine s_ifeq (tgt := 138) dX4_failing_126 (by decide) (fun c_126 => ?_) (fun c_126 => ?_)
              · skip
                refine s_lconst (v := 0) dX4_failing_138 (by decide) ?_
                refine s_ladd dX4_failing_139 ?_
                refine s_lstore dX4_failing_140 (by decide) ?_
                refine s_iinc (v := (nI k) + 1) dX4_failing_142 rfl (by rfl) (by decide) ?_
                refine s_goto (tgt := 10) dX4_failing_145 (by decide) ?_
                exact s_sub (lo' := [(0, .ref w.mm), (1, .int ((g_X4_failing c (k + 1)).1)), (2, .long ((g_X4_failing c (k + 1)).2.1)), (4, .long ((g_X4_failing c (k + 1)).2.2)), (6, .int (nI (k + 1)))]) (List.forall_mem_cons.mpr ⟨rfl, List.forall_mem_cons.mpr ⟨congrArg (fun z => some (Value.int z)) (Eq.symm (by rw [g_X4_failing_s, if_neg c_20, if_pos c_69, if_pos c_79, if_pos c_100, if_pos c_126])), List.forall_mem_cons.mpr ⟨congrArg (fun z => some (Value.long z)) (Eq.symm (by rw [g_X4_failing_s, if_neg c_20, if_pos c_69, if_pos c_79, if_pos c_100, if_pos c_126])), List.forall_mem_cons.mpr ⟨congrArg (fun z => some (Value.long z)) (Eq.symm (by rw [g_X4_failing_s, if_neg c_20, if_pos c_69, if_pos c_79, if_pos c_100, if_pos c_126])), List.forall_mem_cons.mpr ⟨congrArg (fun z => some (Value.int z)) (nI_1 k), fun _ h => absurd h List.not_mem_nil⟩⟩⟩⟩⟩) (Nat.zero_le _) (Nat.zero_le _) (ih (k + 1) (by omega))
              · skip
                refine s_aloadn dX4_failing_129 rfl rfl ?_
                refine s_iload dX4_failing_130 rfl ?_
                refine s_cv1R (n := 52) dX4_failing_132 rfl (kv hW.mm (by decide) rfl) rfl (by decide) (by decide) (by decide) (by decide) (Nat.le_of_ble_eq_true rfl) (m_X4_owed hW (Nat.lt_of_lt_of_le hlt hn)) ?_
                refine s_goto (tgt := 139) dX4_failing_135 (by decide) ?_
                refine s_ladd dX4_failing_139 ?_
                refine s_lstore dX4_failing_140 (by decide) ?_
                refine s_iinc (v := (nI k) + 1) dX4_failing_142 rfl (by rfl) (by decide) ?_
                refine s_goto (tgt := 10) dX4_failing_145 (by decide) ?_
                exact s_sub (lo' := [(0, .ref w.mm), (1, .int ((g_X4_failing c (k + 1)).1)), (2, .long ((g_X4_failing c (k + 1)).2.1)), (4, .long ((g_X4_failing c (k + 1)).2.2)), (6, .int (nI (k + 1)))]) (List.forall_mem_cons.mpr ⟨rfl, List.forall_mem_cons.mpr ⟨congrArg (fun z => some (Value.int z)) (Eq.symm (by rw [g_X4_failing_s, if_neg c_20, if_pos c_69, if_pos c_79, if_pos c_100, if_neg c_126])), List.forall_mem_cons.mpr ⟨congrArg (fun z => some (Value.long z)) (Eq.symm (by rw [g_X4_failing_s, if_neg c_20, if_pos c_69, if_pos c_79, if_pos c_100, if_neg c_126])), List.forall_mem_cons.mpr ⟨congrArg (fun z => some (Value.long z)) (Eq.symm (by rw [g_X4_failing_s, if_neg c_20, if_pos c_69, if_pos c_79, if_pos c_100, if_neg c_126])), List.forall_mem_cons.mpr ⟨congrArg (fun z => some (Value.int z)) (nI_1 k), fun _ h => absurd h List.not_mem_nil⟩⟩⟩⟩⟩) (Nat.zero_le _) (Nat.zero_le _) (ih (k + 1) (by omega))
          · skip
            refine s_aloadn dX4_failing_82 rfl rfl ?_
            refine s_getR (n := 69) dX4_failing_83 rfl hW.mm (fun _ _ _ => rfl) (hW.rr 8 (by decide)).1 ?_
            refine s_iload dX4_failing_86 rfl ?_
            refine s_iald' (j := k) dX4_failing_88 ((hW.rr 8 (by decide)).2.1) rfl (by rw [(hW.rr 8 (by decide)).2.2]; exact (Nat.lt_of_lt_of_le hlt hn)) (by rw [(hW.rr 8 (by decide)).2.2]; decide) ?_
            rw [hW.ai 8 (by decide)]
            refine s_iconst (v := 2) dX4_failing_89 (by decide) ?_
            refine s_icne (tgt := 142) dX4_failing_90 (by decide) (fun c_90 => ?_) (fun c_90 => ?_)
            · skip
              refine s_iinc (v := (nI k) + 1) dX4_failing_142 rfl (by rfl) (by decide) ?_
              refine s_goto (tgt := 10) dX4_failing_145 (by decide) ?_
              exact s_sub (lo' := [(0, .ref w.mm), (1, .int ((g_X4_failing c (k + 1)).1)), (2, .long ((g_X4_failing c (k + 1)).2.1)), (4, .long ((g_X4_failing c (k + 1)).2.2)), (6, .int (nI (k + 1)))]) (List.forall_mem_cons.mpr ⟨rfl, List.forall_mem_cons.mpr ⟨congrArg (fun z => some (Value.int z)) (Eq.symm (by rw [g_X4_failing_s, if_neg c_20, if_pos c_69, if_neg c_79, if_neg c_90])), List.forall_mem_cons.mpr ⟨congrArg (fun z => some (Value.long z)) (Eq.symm (by rw [g_X4_failing_s, if_neg c_20, if_pos c_69, if_neg c_79, if_neg c_90])), List.forall_mem_cons.mpr ⟨congrArg (fun z => some (Value.long z)) (Eq.symm (by rw [g_X4_failing_s, if_neg c_20, if_pos c_69, if_neg c_79, if_neg c_90])), List.forall_mem_cons.mpr ⟨congrArg (fun z => some (Value.int z)) (nI_1 k), fun _ h => absurd h List.not_mem_nil⟩⟩⟩⟩⟩) (Nat.zero_le _) (Nat.zero_le _) (ih (k + 1) (by omega))
            · skip
              refine s_aloadn dX4_failing_93 rfl rfl ?_
              refine s_getR (n := 76) dX4_failing_94 rfl hW.mm (fun _ _ _ => rfl) (hW.rr 15 (by decide)).1 ?_
              refine s_iload dX4_failing_97 rfl ?_
              refine s_zald' (j := k) dX4_failing_99 ((hW.rr 15 (by decide)).2.1) rfl (by rw [(hW.rr 15 (by decide)).2.2]; exact (Nat.lt_of_lt_of_le hlt hn)) (by rw [(hW.rr 15 (by decide)).2.2]; decide) ?_
              rw [hW.ai 15 (by decide)]
              refine s_ifne (tgt := 142) dX4_failing_100 (by decide) (fun c_100 => ?_) (fun c_100 => ?_)
              · skip
                refine s_iinc (v := (nI k) + 1) dX4_failing_142 rfl (by rfl) (by decide) ?_
                refine s_goto (tgt := 10) dX4_failing_145 (by decide) ?_
                exact s_sub (lo' := [(0, .ref w.mm), (1, .int ((g_X4_failing c (k + 1)).1)), (2, .long ((g_X4_failing c (k + 1)).2.1)), (4, .long ((g_X4_failing c (k + 1)).2.2)), (6, .int (nI (k + 1)))]) (List.forall_mem_cons.mpr ⟨rfl, List.forall_mem_cons.mpr ⟨congrArg (fun z => some (Value.int z)) (Eq.symm (by rw [g_X4_failing_s, if_neg c_20, if_pos c_69, if_neg c_79, if_pos c_90, if_neg c_100])), List.forall_mem_cons.mpr ⟨congrArg (fun z => some (Value.long z)) (Eq.symm (by rw [g_X4_failing_s, if_neg c_20, if_pos c_69, if_neg c_79, if_pos c_90, if_neg c_100])), List.forall_mem_cons.mpr ⟨congrArg (fun z => some (Value.long z)) (Eq.symm (by rw [g_X4_failing_s, if_neg c_20, if_pos c_69, if_neg c_79, if_pos c_90, if_neg c_100])), List.forall_mem_cons.mpr ⟨congrArg (fun z => some (Value.int z)) (nI_1 k), fun _ h => absurd h List.not_mem_nil⟩⟩⟩⟩⟩) (Nat.zero_le _) (Nat.zero_le _) (ih (k + 1) (by omega))
              · skip
                refine s_lloadn dX4_failing_103 rfl rfl ?_
                refine s_aloadn dX4_failing_104 rfl rfl ?_
                refine s_iload dX4_failing_105 rfl ?_
                refine s_cv1R (n := 52) dX4_failing_107 rfl (kv hW.mm (by decide) rfl) rfl (by decide) (by decide) (by decide) (by decide) (Nat.le_of_ble_eq_true rfl) (m_X4_owed hW (Nat.lt_of_lt_of_le hlt hn)) ?_
                refine s_ladd dX4_failing_110 ?_
                refine s_lstoren dX4_failing_111 rfl (by decide) ?_
                refine s_lload dX4_failing_112 rfl ?_
                refine s_aloadn dX4_failing_114 rfl rfl ?_
                refine s_getR (n := 98) dX4_failing_115 rfl hW.mm (fun _ _ _ => rfl) (hW.rr 37 (by decide)).1 ?_
                refine s_aloadn dX4_failing_118 rfl rfl ?_
                refine s_getR (n := 70) dX4_failing_119 rfl hW.mm (fun _ _ _ => rfl) (hW.rr 9 (by decide)).1 ?_
                refine s_iload dX4_failing_122 rfl ?_
                refine s_iald' (j := k) dX4_failing_124 ((hW.rr 9 (by decide)).2.1) rfl (by rw [(hW.rr 9 (by decide)).2.2]; exact (Nat.lt_of_lt_of_le hlt hn)) (by rw [(hW.rr 9 (by decide)).2.2]; decide) ?_
                rw [hW.ai 9 (by decide)]
                refine s_zald' (j := (ix (c.ai 9 k))) dX4_failing_125 ((hW.rr 37 (by decide)).2.1) (ix_nI (hL k hlt).1).symm (by rw [(hW.rr 37 (by decide)).2.2]; exact (ix_of (hL k hlt).1 (hL k hlt).2 (by decide))) (by rw [(hW.rr 37 (by decide)).2.2]; decide) ?_
                rw [hW.ai 37 (by decide)]
                refine s_ifeq (tgt := 138) dX4_failing_126 (by decide) (fun c_126 => ?_) (fun c_126 => ?_)
                · skip
                  refine s_lconst (v := 0) dX4_failing_138 (by decide) ?_
                  refine s_ladd dX4_failing_139 ?_
                  refine s_lstore dX4_failing_140 (by decide) ?_
                  refine s_iinc (v := (nI k) + 1) dX4_failing_142 rfl (by rfl) (by decide) ?_
                  refine s_goto (tgt := 10) dX4_failing_145 (by decide) ?_
                  exact s_sub (lo' := [(0, .ref w.mm), (1, .int ((g_X4_failing c (k + 1)).1)), (2, .long ((g_X4_failing c (k + 1)).2.1)), (4, .long ((g_X4_failing c (k + 1)).2.2)), (6, .int (nI (k + 1)))]) (List.forall_mem_cons.mpr ⟨rfl, List.forall_mem_cons.mpr ⟨congrArg (fun z => some (Value.int z)) (Eq.symm (by rw [g_X4_failing_s, if_neg c_20, if_pos c_69, if_neg c_79, if_pos c_90, if_pos c_100, if_pos c_126])), List.forall_mem_cons.mpr ⟨congrArg (fun z => some (Value.long z)) (Eq.symm (by rw [g_X4_failing_s, if_neg c_20, if_pos c_69, if_neg c_79, if_pos c_90, if_pos c_100, if_pos c_126])), List.forall_mem_cons.mpr ⟨congrArg (fun z => some (Value.long z)) (Eq.symm (by rw [g_X4_failing_s, if_neg c_20, if_pos c_69, if_neg c_79, if_pos c_90, if_pos c_100, if_pos c_126])), List.forall_mem_cons.mpr ⟨congrArg (fun z => some (Value.int z)) (nI_1 k), fun _ h => absurd h List.not_mem_nil⟩⟩⟩⟩⟩) (Nat.zero_le _) (Nat.zero_le _) (ih (k + 1) (by omega))
                · skip
                  refine s_aloadn dX4_failing_129 rfl rfl ?_
                  refine s_iload dX4_failing_130 rfl ?_
                  refine s_cv1R (n := 52) dX4_failing_132 rfl (kv hW.mm (by decide) rfl) rfl (by decide) (by decide) (by decide) (by decide) (Nat.le_of_ble_eq_true rfl) (m_X4_owed hW (Nat.lt_of_lt_of_le hlt hn)) ?_
                  refine s_goto (tgt := 139) dX4_failing_135 (by decide) ?_
                  refine s_ladd dX4_failing_139 ?_
                  refine s_lstore dX4_failing_140 (by decide) ?_
                  refine s_iinc (v := (nI k) + 1) dX4_failing_142 rfl (by rfl) (by decide) ?_
                  refine s_goto (tgt := 10) dX4_failing_145 (by decide) ?_
                  exact s_sub (lo' := [(0, .ref w.mm), (1, .int ((g_X4_failing c (k + 1)).1)), (2, .long ((g_X4_failing c (k + 1)).2.1)), (4, .long ((g_X4_failing c (k + 1)).2.2)), (6, .int (nI (k + 1)))]) (List.forall_mem_cons.mpr ⟨rfl, List.forall_mem_cons.mpr ⟨congrArg (fun z => some (Value.int z)) (Eq.symm (by rw [g_X4_failing_s, if_neg c_20, if_pos c_69, if_neg c_79, if_pos c_90, if_pos c_100, if_neg c_126])), List.forall_mem_cons.mpr ⟨congrArg (fun z => some (Value.long z)) (Eq.symm (by rw [g_X4_failing_s, if_neg c_20, if_pos c_69, if_neg c_79, if_pos c_90, if_pos c_100, if_neg c_126])), List.forall_mem_cons.mpr ⟨congrArg (fun z => some (Value.long z)) (Eq.symm (by rw [g_X4_failing_s, if_neg c_20, if_pos c_69, if_neg c_79, if_pos c_90, if_pos c_100, if_neg c_126])), List.forall_mem_cons.mpr ⟨congrArg (fun z => some (Value.int z)) (nI_1 k), fun _ h => absurd h List.not_mem_nil⟩⟩⟩⟩⟩) (Nat.zero_le _) (Nat.zero_le _) (ih (k + 1) (by omega))
      · skip
        refine s_aloadn dX4_failing_23 rfl rfl ?_
        refine s_getR (n := 77) dX4_failing_24 rfl hW.mm (fun _ _ _ => rfl) (hW.rr 16 (by decide)).1 ?_
        refine s_iload dX4_failing_27 rfl ?_
        refine s_iald' (j := k) dX4_failing_29 ((hW.rr 16 (by decide)).2.1) rfl (by rw [(hW.rr 16 (by decide)).2.2]; exact (Nat.lt_of_lt_of_le hlt hn)) (by rw [(hW.rr 16 (by decide)).2.2]; decide) ?_
        rw [hW.ai 16 (by decide)]
        refine s_ifne (tgt := 60) dX4_failing_30 (by decide) (fun c_30 => ?_) (fun c_30 => ?_)
        · skip
          refine s_iconst (v := 0) dX4_failing_60 (by decide) ?_
          refine s_istoren dX4_failing_61 rfl (by decide) ?_
          refine s_aloadn dX4_failing_62 rfl rfl ?_
          refine s_getR (n := 77) dX4_failing_63 rfl hW.mm (fun _ _ _ => rfl) (hW.rr 16 (by decide)).1 ?_
          refine s_iload dX4_failing_66 rfl ?_
          refine s_iald' (j := k) dX4_failing_68 ((hW.rr 16 (by decide)).2.1) rfl (by rw [(hW.rr 16 (by decide)).2.2]; exact (Nat.lt_of_lt_of_le hlt hn)) (by rw [(hW.rr 16 (by decide)).2.2]; decide) ?_
          rw [hW.ai 16 (by decide)]
          refine s_ifne (tgt := 142) dX4_failing_69 (by decide) (fun c_69 => ?_) (fun c_69 => ?_)
          · skip
            refine s_iinc (v := (nI k) + 1) dX4_failing_142 rfl (by rfl) (by decide) ?_
            refine s_goto (tgt := 10) dX4_failing_145 (by decide) ?_
            exact s_sub (lo' := [(0, .ref w.mm), (1, .int ((g_X4_failing c (k + 1)).1)), (2, .long ((g_X4_failing c (k + 1)).2.1)), (4, .long ((g_X4_failing c (k + 1)).2.2)), (6, .int (nI (k + 1)))]) (List.forall_mem_cons.mpr ⟨rfl, List.forall_mem_cons.mpr ⟨congrArg (fun z => some (Value.int z)) (Eq.symm (by rw [g_X4_failing_s, if_pos c_20, if_neg c_30, if_neg c_69])), List.forall_mem_cons.mpr ⟨congrArg (fun z => some (Value.long z)) (Eq.symm (by rw [g_X4_failing_s, if_pos c_20, if_neg c_30, if_neg c_69])), List.forall_mem_cons.mpr ⟨congrArg (fun z => some (Value.long z)) (Eq.symm (by rw [g_X4_failing_s, if_pos c_20, if_neg c_30, if_neg c_69])), List.forall_mem_cons.mpr ⟨congrArg (fun z => some (Value.int z)) (nI_1 k), fun _ h => absurd h List.not_mem_nil⟩⟩⟩⟩⟩) (Nat.zero_le _) (Nat.zero_le _) (ih (k + 1) (by omega))
          · skip
            refine s_aloadn dX4_failing_72 rfl rfl ?_
            refine s_getR (n := 69) dX4_failing_73 rfl hW.mm (fun _ _ _ => rfl) (hW.rr 8 (by decide)).1 ?_
            refine s_iload dX4_failing_76 rfl ?_
            refine s_iald' (j := k) dX4_failing_78 ((hW.rr 8 (by decide)).2.1) rfl (by rw [(hW.rr 8 (by decide)).2.2]; exact (Nat.lt_of_lt_of_le hlt hn)) (by rw [(hW.rr 8 (by decide)).2.2]; decide) ?_
            rw [hW.ai 8 (by decide)]
            refine s_ifeq (tgt := 93) dX4_failing_79 (by decide) (fun c_79 => ?_) (fun c_79 => ?_)
            · skip
              refine s_aloadn dX4_failing_93 rfl rfl ?_
              refine s_getR (n := 76) dX4_failing_94 rfl hW.mm (fun _ _ _ => rfl) (hW.rr 15 (by decide)).1 ?_
              refine s_iload dX4_failing_97 rfl ?_
              refine s_zald' (j := k) dX4_failing_99 ((hW.rr 15 (by decide)).2.1) rfl (by rw [(hW.rr 15 (by decide)).2.2]; exact (Nat.lt_of_lt_of_le hlt hn)) (by rw [(hW.rr 15 (by decide)).2.2]; decide) ?_
              rw [hW.ai 15 (by decide)]
              refine s_ifne (tgt := 142) dX4_failing_100 (by decide) (fun c_100 => ?_) (fun c_100 => ?_)
              · skip
                refine s_iinc (v := (nI k) + 1) dX4_failing_142 rfl (by rfl) (by decide) ?_
                refine s_goto (tgt := 10) dX4_failing_145 (by decide) ?_
                exact s_sub (lo' := [(0, .ref w.mm), (1, .int ((g_X4_failing c (k + 1)).1)), (2, .long ((g_X4_failing c (k + 1)).2.1)), (4, .long ((g_X4_failing c (k + 1)).2.2)), (6, .int (nI (k + 1)))]) (List.forall_mem_cons.mpr ⟨rfl, List.forall_mem_cons.mpr ⟨congrArg (fun z => some (Value.int z)) (Eq.symm (by rw [g_X4_failing_s, if_pos c_20, if_neg c_30, if_pos c_69, if_pos c_79, if_neg c_100])), List.forall_mem_cons.mpr ⟨congrArg (fun z => some (Value.long z)) (Eq.symm (by rw [g_X4_failing_s, if_pos c_20, if_neg c_30, if_pos c_69, if_pos c_79, if_neg c_100])), List.forall_mem_cons.mpr ⟨congrArg (fun z => some (Value.long z)) (Eq.symm (by rw [g_X4_failing_s, if_pos c_20, if_neg c_30, if_pos c_69, if_pos c_79, if_neg c_100])), List.forall_mem_cons.mpr ⟨congrArg (fun z => some (Value.int z)) (nI_1 k), fun _ h => absurd h List.not_mem_nil⟩⟩⟩⟩⟩) (Nat.zero_le _) (Nat.zero_le _) (ih (k + 1) (by omega))
              · skip
                refine s_lloadn dX4_failing_103 rfl rfl ?_
                refine s_aloadn dX4_failing_104 rfl rfl ?_
                refine s_iload dX4_failing_105 rfl ?_
                refine s_cv1R (n := 52) dX4_failing_107 rfl (kv hW.mm (by decide) rfl) rfl (by decide) (by decide) (by decide) (by decide) (Nat.le_of_ble_eq_true rfl) (m_X4_owed hW (Nat.lt_of_lt_of_le hlt hn)) ?_
                refine s_ladd dX4_failing_110 ?_
                refine s_lstoren dX4_failing_111 rfl (by decide) ?_
                refine s_lload dX4_failing_112 rfl ?_
                refine s_aloadn dX4_failing_114 rfl rfl ?_
                refine s_getR (n := 98) dX4_failing_115 rfl hW.mm (fun _ _ _ => rfl) (hW.rr 37 (by decide)).1 ?_
                refine s_aloadn dX4_failing_118 rfl rfl ?_
                refine s_getR (n := 70) dX4_failing_119 rfl hW.mm (fun _ _ _ => rfl) (hW.rr 9 (by decide)).1 ?_
                refine s_iload dX4_failing_122 rfl ?_
                refine s_iald' (j := k) dX4_failing_124 ((hW.rr 9 (by decide)).2.1) rfl (by rw [(hW.rr 9 (by decide)).2.2]; exact (Nat.lt_of_lt_of_le hlt hn)) (by rw [(hW.rr 9 (by decide)).2.2]; decide) ?_
                rw [hW.ai 9 (by decide)]
                refine s_zald' (j := (ix (c.ai 9 k))) dX4_failing_125 ((hW.rr 37 (by decide)).2.1) (ix_nI (hL k hlt).1).symm (by rw [(hW.rr 37 (by decide)).2.2]; exact (ix_of (hL k hlt).1 (hL k hlt).2 (by decide))) (by rw [(hW.rr 37 (by decide)).2.2]; decide) ?_
                rw [hW.ai 37 (by decide)]
                refine s_ifeq (tgt := 138) dX4_failing_126 (by decide) (fun c_126 => ?_) (fun c_126 => ?_)
                · skip
                  refine s_lconst (v := 0) dX4_failing_138 (by decide) ?_
                  refine s_ladd dX4_failing_139 ?_
                  refine s_lstore dX4_failing_140 (by decide) ?_
                  refine s_iinc (v := (nI k) + 1) dX4_failing_142 rfl (by rfl) (by decide) ?_
                  refine s_goto (tgt := 10) dX4_failing_145 (by decide) ?_
                  exact s_sub (lo' := [(0, .ref w.mm), (1, .int ((g_X4_failing c (k + 1)).1)), (2, .long ((g_X4_failing c (k + 1)).2.1)), (4, .long ((g_X4_failing c (k + 1)).2.2)), (6, .int (nI (k + 1)))]) (List.forall_mem_cons.mpr ⟨rfl, List.forall_mem_cons.mpr ⟨congrArg (fun z => some (Value.int z)) (Eq.symm (by rw [g_X4_failing_s, if_pos c_20, if_neg c_30, if_pos c_69, if_pos c_79, if_pos c_100, if_pos c_126])), List.forall_mem_cons.mpr ⟨congrArg (fun z => some (Value.long z)) (Eq.symm (by rw [g_X4_failing_s, if_pos c_20, if_neg c_30, if_pos c_69, if_pos c_79, if_pos c_100, if_pos c_126])), List.forall_mem_cons.mpr ⟨congrArg (fun z => some (Value.long z)) (Eq.symm (by rw [g_X4_failing_s, if_pos c_20, if_neg c_30, if_pos c_69, if_pos c_79, if_pos c_100, if_pos c_126])), List.forall_mem_cons.mpr ⟨congrArg (fun z => some (Value.int z)) (nI_1 k), fun _ h => absurd h List.not_mem_nil⟩⟩⟩⟩⟩) (Nat.zero_le _) (Nat.zero_le _) (ih (k + 1) (by omega))
                · skip
                  refine s_aloadn dX4_failing_129 rfl rfl ?_
                  refine s_iload dX4_failing_130 rfl ?_
                  refine s_cv1R (n := 52) dX4_failing_132 rfl (kv hW.mm (by decide) rfl) rfl (by decide) (by decide) (by decide) (by decide) (Nat.le_of_ble_eq_true rfl) (m_X4_owed hW (Nat.lt_of_lt_of_le hlt hn)) ?_
                  refine s_goto (tgt := 139) dX4_failing_135 (by decide) ?_
                  refine s_ladd dX4_failing_139 ?_
                  refine s_lstore dX4_failing_140 (by decide) ?_
                  refine s_iinc (v := (nI k) + 1) dX4_failing_142 rfl (by rfl) (by decide) ?_
                  refine s_goto (tgt := 10) dX4_failing_145 (by decide) ?_
                  exact s_sub (lo' := [(0, .ref w.mm), (1, .int ((g_X4_failing c (k + 1)).1)), (2, .long ((g_X4_failing c (k + 1)).2.1)), (4, .long ((g_X4_failing c (k + 1)).2.2)), (6, .int (nI (k + 1)))]) (List.forall_mem_cons.mpr ⟨rfl, List.forall_mem_cons.mpr ⟨congrArg (fun z => some (Value.int z)) (Eq.symm (by rw [g_X4_failing_s, if_pos c_20, if_neg c_30, if_pos c_69, if_pos c_79, if_pos c_100, if_neg c_126])), List.forall_mem_cons.mpr ⟨congrArg (fun z => some (Value.long z)) (Eq.symm (by rw [g_X4_failing_s, if_pos c_20, if_neg c_30, if_pos c_69, if_pos c_79, if_pos c_100, if_neg c_126])), List.forall_mem_cons.mpr ⟨congrArg (fun z => some (Value.long z)) (Eq.symm (by rw [g_X4_failing_s, if_pos c_20, if_neg c_30, if_pos c_69, if_pos c_79, if_pos c_100, if_neg c_126])), List.forall_mem_cons.mpr ⟨congrArg (fun z => some (Value.int z)) (nI_1 k), fun _ h => absurd h List.not_mem_nil⟩⟩⟩⟩⟩) (Nat.zero_le _) (Nat.zero_le _) (ih (k + 1) (by omega))
            · skip
              refine s_aloadn dX4_failing_82 rfl rfl ?_
              refine s_getR (n := 69) dX4_failing_83 rfl hW.mm (fun _ _ _ => rfl) (hW.rr 8 (by decide)).1 ?_
              refine s_iload dX4_failing_86 rfl ?_
              refine s_iald' (j := k) dX4_failing_88 ((hW.rr 8 (by decide)).2.1) rfl (by rw [(hW.rr 8 (by decide)).2.2]; exact (Nat.lt_of_lt_of_le hlt hn)) (by rw [(hW.rr 8 (by decide)).2.2]; decide) ?_
              rw [hW.ai 8 (by decide)]
              refine s_iconst (v := 2) dX4_failing_89 (by decide) ?_
              refine s_icne (tgt := 142) dX4_failing_90 (by decide) (fun c_90 => ?_) (fun c_90 => ?_)
              · skip
                refine s_iinc (v := (nI k) + 1) dX4_failing_142 rfl (by rfl) (by decide) ?_
                refine s_goto (tgt := 10) dX4_failing_145 (by decide) ?_
                exact s_sub (lo' := [(0, .ref w.mm), (1, .int ((g_X4_failing c (k + 1)).1)), (2, .long ((g_X4_failing c (k + 1)).2.1)), (4, .long ((g_X4_failing c (k + 1)).2.2)), (6, .int (nI (k + 1)))]) (List.forall_mem_cons.mpr ⟨rfl, List.forall_mem_cons.mpr ⟨congrArg (fun z => some (Value.int z)) (Eq.symm (by rw [g_X4_failing_s, if_pos c_20, if_neg c_30, if_pos c_69, if_neg c_79, if_neg c_90])), List.forall_mem_cons.mpr ⟨congrArg (fun z => some (Value.long z)) (Eq.symm (by rw [g_X4_failing_s, if_pos c_20, if_neg c_30, if_pos c_69, if_neg c_79, if_neg c_90])), List.forall_mem_cons.mpr ⟨congrArg (fun z => some (Value.long z)) (Eq.symm (by rw [g_X4_failing_s, if_pos c_20, if_neg c_30, if_pos c_69, if_neg c_79, if_neg c_90])), List.forall_mem_cons.mpr ⟨congrArg (fun z => some (Value.int z)) (nI_1 k), fun _ h => absurd h List.not_mem_nil⟩⟩⟩⟩⟩) (Nat.zero_le _) (Nat.zero_le _) (ih (k + 1) (by omega))
              · skip
                refine s_aloadn dX4_failing_93 rfl rfl ?_
                refine s_getR (n := 76) dX4_failing_94 rfl hW.mm (fun _ _ _ => rfl) (hW.rr 15 (by decide)).1 ?_
                refine s_iload dX4_failing_97 rfl ?_
                refine s_zald' (j := k) dX4_failing_99 ((hW.rr 15 (by decide)).2.1) rfl (by rw [(hW.rr 15 (by decide)).2.2]; exact (Nat.lt_of_lt_of_le hlt hn)) (by rw [(hW.rr 15 (by decide)).2.2]; decide) ?_
                rw [hW.ai 15 (by decide)]
                refine s_ifne (tgt := 142) dX4_failing_100 (by decide) (fun c_100 => ?_) (fun c_100 => ?_)
                · skip
                  refine s_iinc (v := (nI k) + 1) dX4_failing_142 rfl (by rfl) (by decide) ?_
                  refine s_goto (tgt := 10) dX4_failing_145 (by decide) ?_
                  exact s_sub (lo' := [(0, .ref w.mm), (1, .int ((g_X4_failing c (k + 1)).1)), (2, .long ((g_X4_failing c (k + 1)).2.1)), (4, .long ((g_X4_failing c (k + 1)).2.2)), (6, .int (nI (k + 1)))]) (List.forall_mem_cons.mpr ⟨rfl, List.forall_mem_cons.mpr ⟨congrArg (fun z => some (Value.int z)) (Eq.symm (by rw [g_X4_failing_s, if_pos c_20, if_neg c_30, if_pos c_69, if_neg c_79, if_pos c_90, if_neg c_100])), List.forall_mem_cons.mpr ⟨congrArg (fun z => some (Value.long z)) (Eq.symm (by rw [g_X4_failing_s, if_pos c_20, if_neg c_30, if_pos c_69, if_neg c_79, if_pos c_90, if_neg c_100])), List.forall_mem_cons.mpr ⟨congrArg (fun z => some (Value.long z)) (Eq.symm (by rw [g_X4_failing_s, if_pos c_20, if_neg c_30, if_pos c_69, if_neg c_79, if_pos c_90, if_neg c_100])), List.forall_mem_cons.mpr ⟨congrArg (fun z => some (Value.int z)) (nI_1 k), fun _ h => absurd h List.not_mem_nil⟩⟩⟩⟩⟩) (Nat.zero_le _) (Nat.zero_le _) (ih (k + 1) (by omega))
                · skip
                  refine s_lloadn dX4_failing_103 rfl rfl ?_
                  refine s_aloadn dX4_failing_104 rfl rfl ?_
                  refine s_iload dX4_failing_105 rfl ?_
                  refine s_cv1R (n := 52) dX4_failing_107 rfl (kv hW.mm (by decide) rfl) rfl (by decide) (by decide) (by decide) (by decide) (Nat.le_of_ble_eq_true rfl) (m_X4_owed hW (Nat.lt_of_lt_of_le hlt hn)) ?_
                  refine s_ladd dX4_failing_110 ?_
                  refine s_lstoren dX4_failing_111 rfl (by decide) ?_
                  refine s_lload dX4_failing_112 rfl ?_
                  refine s_aloadn dX4_failing_114 rfl rfl ?_
                  refine s_getR (n := 98) dX4_failing_115 rfl hW.mm (fun _ _ _ => rfl) (hW.rr 37 (by decide)).1 ?_
                  refine s_aloadn dX4_failing_118 rfl rfl ?_
                  refine s_getR (n := 70) dX4_failing_119 rfl hW.mm (fun _ _ _ => rfl) (hW.rr 9 (by decide)).1 ?_
                  refine s_iload dX4_failing_122 rfl ?_
                  refine s_iald' (j := k) dX4_failing_124 ((hW.rr 9 (by decide)).2.1) rfl (by rw [(hW.rr 9 (by decide)).2.2]; exact (Nat.lt_of_lt_of_le hlt hn)) (by rw [(hW.rr 9 (by decide)).2.2]; decide) ?_
                  rw [hW.ai 9 (by decide)]
                  refine s_zald' (j := (ix (c.ai 9 k))) dX4_failing_125 ((hW.rr 37 (by decide)).2.1) (ix_nI (hL k hlt).1).symm (by rw [(hW.rr 37 (by decide)).2.2]; exact (ix_of (hL k hlt).1 (hL k hlt).2 (by decide))) (by rw [(hW.rr 37 (by decide)).2.2]; decide) ?_
                  rw [hW.ai 37 (by decide)]
                  refine s_ifeq (tgt := 138) dX4_failing_126 (by decide) (fun c_126 => ?_) (fun c_126 => ?_)
                  · skip
                    refine s_lconst (v := 0) dX4_failing_138 (by decide) ?_
                    refine s_ladd dX4_failing_139 ?_
                    refine s_lstore dX4_failing_140 (by decide) ?_
                    refine s_iinc (v := (nI k) + 1) dX4_failing_142 rfl (by rfl) (by decide) ?_
                    refine s_goto (tgt := 10) dX4_failing_145 (by decide) ?_
                    exact s_sub (lo' := [(0, .ref w.mm), (1, .int ((g_X4_failing c (k + 1)).1)), (2, .long ((g_X4_failing c (k + 1)).2.1)), (4, .long ((g_X4_failing c (k + 1)).2.2)), (6, .int (nI (k + 1)))]) (List.forall_mem_cons.mpr ⟨rfl, List.forall_mem_cons.mpr ⟨congrArg (fun z => some (Value.int z)) (Eq.symm (by rw [g_X4_failing_s, if_pos c_20, if_neg c_30, if_pos c_69, if_neg c_79, if_pos c_90, if_pos c_100, if_pos c_126])), List.forall_mem_cons.mpr ⟨congrArg (fun z => some (Value.long z)) (Eq.symm (by rw [g_X4_failing_s, if_pos c_20, if_neg c_30, if_pos c_69, if_neg c_79, if_pos c_90, if_pos c_100, if_pos c_126])), List.forall_mem_cons.mpr ⟨congrArg (fun z => some (Value.long z)) (Eq.symm (by rw [g_X4_failing_s, if_pos c_20, if_neg c_30, if_pos c_69, if_neg c_79, if_pos c_90, if_pos c_100, if_pos c_126])), List.forall_mem_cons.mpr ⟨congrArg (fun z => some (Value.int z)) (nI_1 k), fun _ h => absurd h List.not_mem_nil⟩⟩⟩⟩⟩) (Nat.zero_le _) (Nat.zero_le _) (ih (k + 1) (by omega))
                  · skip
                    refine s_aloadn dX4_failing_129 rfl rfl ?_
                    refine s_iload dX4_failing_130 rfl ?_
                    refine s_cv1R (n := 52) dX4_failing_132 rfl (kv hW.mm (by decide) rfl) rfl (by decide) (by decide) (by decide) (by decide) (Nat.le_of_ble_eq_true rfl) (m_X4_owed hW (Nat.lt_of_lt_of_le hlt hn)) ?_
                    refine s_goto (tgt := 139) dX4_failing_135 (by decide) ?_
                    refine s_ladd dX4_failing_139 ?_
                    refine s_lstore dX4_failing_140 (by decide) ?_
                    refine s_iinc (v := (nI k) + 1) dX4_failing_142 rfl (by rfl) (by decide) ?_
                    refine s_goto (tgt := 10) dX4_failing_145 (by decide) ?_
                    exact s_sub (lo' := [(0, .ref w.mm), (1, .int ((g_X4_failing c (k + 1)).1)), (2, .long ((g_X4_failing c (k + 1)).2.1)), (4, .long ((g_X4_failing c (k + 1)).2.2)), (6, .int (nI (k + 1)))]) (List.forall_mem_cons.mpr ⟨rfl, List.forall_mem_cons.mpr ⟨congrArg (fun z => some (Value.int z)) (Eq.symm (by rw [g_X4_failing_s, if_pos c_20, if_neg c_30, if_pos c_69, if_neg c_79, if_pos c_90, if_pos c_100, if_neg c_126])), List.forall_mem_cons.mpr ⟨congrArg (fun z => some (Value.long z)) (Eq.symm (by rw [g_X4_failing_s, if_pos c_20, if_neg c_30, if_pos c_69, if_neg c_79, if_pos c_90, if_pos c_100, if_neg c_126])), List.forall_mem_cons.mpr ⟨congrArg (fun z => some (Value.long z)) (Eq.symm (by rw [g_X4_failing_s, if_pos c_20, if_neg c_30, if_pos c_69, if_neg c_79, if_pos c_90, if_pos c_100, if_neg c_126])), List.forall_mem_cons.mpr ⟨congrArg (fun z => some (Value.int z)) (nI_1 k), fun _ h => absurd h List.not_mem_nil⟩⟩⟩⟩⟩) (Nat.zero_le _) (Nat.zero_le _) (ih (k + 1) (by omega))
        · skip
          refine s_aloadn dX4_failing_33 rfl rfl ?_
          refine s_getR (n := 69) dX4_failing_34 rfl hW.mm (fun _ _ _ => rfl) (hW.rr 8 (by decide)).1 ?_
          refine s_iload dX4_failing_37 rfl ?_
          refine s_iald' (j := k) dX4_failing_39 ((hW.rr 8 (by decide)).2.1) rfl (by rw [(hW.rr 8 (by decide)).2.2]; exact (Nat.lt_of_lt_of_le hlt hn)) (by rw [(hW.rr 8 (by decide)).2.2]; decide) ?_
          rw [hW.ai 8 (by decide)]
          refine s_iconst (v := 4) dX4_failing_40 (by decide) ?_
          refine s_icne (tgt := 60) dX4_failing_41 (by decide) (fun c_41 => ?_) (fun c_41 => ?_)
          · skip
            refine s_iconst (v := 0) dX4_failing_60 (by decide) ?_
            refine s_istoren dX4_failing_61 rfl (by decide) ?_
            refine s_aloadn dX4_failing_62 rfl rfl ?_
            refine s_getR (n := 77) dX4_failing_63 rfl hW.mm (fun _ _ _ => rfl) (hW.rr 16 (by decide)).1 ?_
            refine s_iload dX4_failing_66 rfl ?_
            refine s_iald' (j := k) dX4_failing_68 ((hW.rr 16 (by decide)).2.1) rfl (by rw [(hW.rr 16 (by decide)).2.2]; exact (Nat.lt_of_lt_of_le hlt hn)) (by rw [(hW.rr 16 (by decide)).2.2]; decide) ?_
            rw [hW.ai 16 (by decide)]
            refine s_ifne (tgt := 142) dX4_failing_69 (by decide) (fun c_69 => ?_) (fun c_69 => ?_)
            · skip
              refine s_iinc (v := (nI k) + 1) dX4_failing_142 rfl (by rfl) (by decide) ?_
              refine s_goto (tgt := 10) dX4_failing_145 (by decide) ?_
              exact s_sub (lo' := [(0, .ref w.mm), (1, .int ((g_X4_failing c (k + 1)).1)), (2, .long ((g_X4_failing c (k + 1)).2.1)), (4, .long ((g_X4_failing c (k + 1)).2.2)), (6, .int (nI (k + 1)))]) (List.forall_mem_cons.mpr ⟨rfl, List.forall_mem_cons.mpr ⟨congrArg (fun z => some (Value.int z)) (Eq.symm (by rw [g_X4_failing_s, if_pos c_20, if_pos c_30, if_neg c_41, if_neg c_69])), List.forall_mem_cons.mpr ⟨congrArg (fun z => some (Value.long z)) (Eq.symm (by rw [g_X4_failing_s, if_pos c_20, if_pos c_30, if_neg c_41, if_neg c_69])), List.forall_mem_cons.mpr ⟨congrArg (fun z => some (Value.long z)) (Eq.symm (by rw [g_X4_failing_s, if_pos c_20, if_pos c_30, if_neg c_41, if_neg c_69])), List.forall_mem_cons.mpr ⟨congrArg (fun z => some (Value.int z)) (nI_1 k), fun _ h => absurd h List.not_mem_nil⟩⟩⟩⟩⟩) (Nat.zero_le _) (Nat.zero_le _) (ih (k + 1) (by omega))
            · skip
              refine s_aloadn dX4_failing_72 rfl rfl ?_
              refine s_getR (n := 69) dX4_failing_73 rfl hW.mm (fun _ _ _ => rfl) (hW.rr 8 (by decide)).1 ?_
              refine s_iload dX4_failing_76 rfl ?_
              refine s_iald' (j := k) dX4_failing_78 ((hW.rr 8 (by decide)).2.1) rfl (by rw [(hW.rr 8 (by decide)).2.2]; exact (Nat.lt_of_lt_of_le hlt hn)) (by rw [(hW.rr 8 (by decide)).2.2]; decide) ?_
              rw [hW.ai 8 (by decide)]
              refine s_ifeq (tgt := 93) dX4_failing_79 (by decide) (fun c_79 => ?_) (fun c_79 => ?_)
              · skip
                refine s_aloadn dX4_failing_93 rfl rfl ?_
                refine s_getR (n := 76) dX4_failing_94 rfl hW.mm (fun _ _ _ => rfl) (hW.rr 15 (by decide)).1 ?_
                refine s_iload dX4_failing_97 rfl ?_
                refine s_zald' (j := k) dX4_failing_99 ((hW.rr 15 (by decide)).2.1) rfl (by rw [(hW.rr 15 (by decide)).2.2]; exact (Nat.lt_of_lt_of_le hlt hn)) (by rw [(hW.rr 15 (by decide)).2.2]; decide) ?_
                rw [hW.ai 15 (by decide)]
                refine s_ifne (tgt := 142) dX4_failing_100 (by decide) (fun c_100 => ?_) (fun c_100 => ?_)
                · skip
                  refine s_iinc (v := (nI k) + 1) dX4_failing_142 rfl (by rfl) (by decide) ?_
                  refine s_goto (tgt := 10) dX4_failing_145 (by decide) ?_
                  exact s_sub (lo' := [(0, .ref w.mm), (1, .int ((g_X4_failing c (k + 1)).1)), (2, .long ((g_X4_failing c (k + 1)).2.1)), (4, .long ((g_X4_failing c (k + 1)).2.2)), (6, .int (nI (k + 1)))]) (List.forall_mem_cons.mpr ⟨rfl, List.forall_mem_cons.mpr ⟨congrArg (fun z => some (Value.int z)) (Eq.symm (by rw [g_X4_failing_s, if_pos c_20, if_pos c_30, if_neg c_41, if_pos c_69, if_pos c_79, if_neg c_100])), List.forall_mem_cons.mpr ⟨congrArg (fun z => some (Value.long z)) (Eq.symm (by rw [g_X4_failing_s, if_pos c_20, if_pos c_30, if_neg c_41, if_pos c_69, if_pos c_79, if_neg c_100])), List.forall_mem_cons.mpr ⟨congrArg (fun z => some (Value.long z)) (Eq.symm (by rw [g_X4_failing_s, if_pos c_20, if_pos c_30, if_neg c_41, if_pos c_69, if_pos c_79, if_neg c_100])), List.forall_mem_cons.mpr ⟨congrArg (fun z => some (Value.int z)) (nI_1 k), fun _ h => absurd h List.not_mem_nil⟩⟩⟩⟩⟩) (Nat.zero_le _) (Nat.zero_le _) (ih (k + 1) (by omega))
                · skip
                  refine s_lloadn dX4_failing_103 rfl rfl ?_
                  refine s_aloadn dX4_failing_104 rfl rfl ?_
                  refine s_iload dX4_failing_105 rfl ?_
                  refine s_cv1R (n := 52) dX4_failing_107 rfl (kv hW.mm (by decide) rfl) rfl (by decide) (by decide) (by decide) (by decide) (Nat.le_of_ble_eq_true rfl) (m_X4_owed hW (Nat.lt_of_lt_of_le hlt hn)) ?_
                  refine s_ladd dX4_failing_110 ?_
                  refine s_lstoren dX4_failing_111 rfl (by decide) ?_
                  refine s_lload dX4_failing_112 rfl ?_
                  refine s_aloadn dX4_failing_114 rfl rfl ?_
                  refine s_getR (n := 98) dX4_failing_115 rfl hW.mm (fun _ _ _ => rfl) (hW.rr 37 (by decide)).1 ?_
                  refine s_aloadn dX4_failing_118 rfl rfl ?_
                  refine s_getR (n := 70) dX4_failing_119 rfl hW.mm (fun _ _ _ => rfl) (hW.rr 9 (by decide)).1 ?_
                  refine s_iload dX4_failing_122 rfl ?_
                  refine s_iald' (j := k) dX4_failing_124 ((hW.rr 9 (by decide)).2.1) rfl (by rw [(hW.rr 9 (by decide)).2.2]; exact (Nat.lt_of_lt_of_le hlt hn)) (by rw [(hW.rr 9 (by decide)).2.2]; decide) ?_
                  rw [hW.ai 9 (by decide)]
                  refine s_zald' (j := (ix (c.ai 9 k))) dX4_failing_125 ((hW.rr 37 (by decide)).2.1) (ix_nI (hL k hlt).1).symm (by rw [(hW.rr 37 (by decide)).2.2]; exact (ix_of (hL k hlt).1 (hL k hlt).2 (by decide))) (by rw [(hW.rr 37 (by decide)).2.2]; decide) ?_
                  rw [hW.ai 37 (by decide)]
                  refine s_ifeq (tgt := 138) dX4_failing_126 (by decide) (fun c_126 => ?_) (fun c_126 => ?_)
                  · skip
                    refine s_lconst (v := 0) dX4_failing_138 (by decide) ?_
                    refine s_ladd dX4_failing_139 ?_
                    refine s_lstore dX4_failing_140 (by decide) ?_
                    refine s_iinc (v := (nI k) + 1) dX4_failing_142 rfl (by rfl) (by decide) ?_
                    refine s_goto (tgt := 10) dX4_failing_145 (by decide) ?_
                    exact s_sub (lo' := [(0, .ref w.mm), (1, .int ((g_X4_failing c (k + 1)).1)), (2, .long ((g_X4_failing c (k + 1)).2.1)), (4, .long ((g_X4_failing c (k + 1)).2.2)), (6, .int (nI (k + 1)))]) (List.forall_mem_cons.mpr ⟨rfl, List.forall_mem_cons.mpr ⟨congrArg (fun z => some (Value.int z)) (Eq.symm (by rw [g_X4_failing_s, if_pos c_20, if_pos c_30, if_neg c_41, if_pos c_69, if_pos c_79, if_pos c_100, if_pos c_126])), List.forall_mem_cons.mpr ⟨congrArg (fun z => some (Value.long z)) (Eq.symm (by rw [g_X4_failing_s, if_pos c_20, if_pos c_30, if_neg c_41, if_pos c_69, if_pos c_79, if_pos c_100, if_pos c_126])), List.forall_mem_cons.mpr ⟨congrArg (fun z => some (Value.long z)) (Eq.symm (by rw [g_X4_failing_s, if_pos c_20, if_pos c_30, if_neg c_41, if_pos c_69, if_pos c_79, if_pos c_100, if_pos c_126])), List.forall_mem_cons.mpr ⟨congrArg (fun z => some (Value.int z)) (nI_1 k), fun _ h => absurd h List.not_mem_nil⟩⟩⟩⟩⟩) (Nat.zero_le _) (Nat.zero_le _) (ih (k + 1) (by omega))
                  · skip
                    refine s_aloadn dX4_failing_129 rfl rfl ?_
                    refine s_iload dX4_failing_130 rfl ?_
                    refine s_cv1R (n := 52) dX4_failing_132 rfl (kv hW.mm (by decide) rfl) rfl (by decide) (by decide) (by decide) (by decide) (Nat.le_of_ble_eq_true rfl) (m_X4_owed hW (Nat.lt_of_lt_of_le hlt hn)) ?_
                    refine s_goto (tgt := 139) dX4_failing_135 (by decide) ?_
                    refine s_ladd dX4_failing_139 ?_
                    refine s_lstore dX4_failing_140 (by decide) ?_
                    refine s_iinc (v := (nI k) + 1) dX4_failing_142 rfl (by rfl) (by decide) ?_
                    refine s_goto (tgt := 10) dX4_failing_145 (by decide) ?_
                    exact s_sub (lo' := [(0, .ref w.mm), (1, .int ((g_X4_failing c (k + 1)).1)), (2, .long ((g_X4_failing c (k + 1)).2.1)), (4, .long ((g_X4_failing c (k + 1)).2.2)), (6, .int (nI (k + 1)))]) (List.forall_mem_cons.mpr ⟨rfl, List.forall_mem_cons.mpr ⟨congrArg (fun z => some (Value.int z)) (Eq.symm (by rw [g_X4_failing_s, if_pos c_20, if_pos c_30, if_neg c_41, if_pos c_69, if_pos c_79, if_pos c_100, if_neg c_126])), List.forall_mem_cons.mpr ⟨congrArg (fun z => some (Value.long z)) (Eq.symm (by rw [g_X4_failing_s, if_pos c_20, if_pos c_30, if_neg c_41, if_pos c_69, if_pos c_79, if_pos c_100, if_neg c_126])), List.forall_mem_cons.mpr ⟨congrArg (fun z => some (Value.long z)) (Eq.symm (by rw [g_X4_failing_s, if_pos c_20, if_pos c_30, if_neg c_41, if_pos c_69, if_pos c_79, if_pos c_100, if_neg c_126])), List.forall_mem_cons.mpr ⟨congrArg (fun z => some (Value.int z)) (nI_1 k), fun _ h => absurd h List.not_mem_nil⟩⟩⟩⟩⟩) (Nat.zero_le _) (Nat.zero_le _) (ih (k + 1) (by omega))
              · skip
                refine s_aloadn dX4_failing_82 rfl rfl ?_
                refine s_getR (n := 69) dX4_failing_83 rfl hW.mm (fun _ _ _ => rfl) (hW.rr 8 (by decide)).1 ?_
                refine s_iload dX4_failing_86 rfl ?_
                refine s_iald' (j := k) dX4_failing_88 ((hW.rr 8 (by decide)).2.1) rfl (by rw [(hW.rr 8 (by decide)).2.2]; exact (Nat.lt_of_lt_of_le hlt hn)) (by rw [(hW.rr 8 (by decide)).2.2]; decide) ?_
                rw [hW.ai 8 (by decide)]
                refine s_iconst (v := 2) dX4_failing_89 (by decide) ?_
                refine s_icne (tgt := 142) dX4_failing_90 (by decide) (fun c_90 => ?_) (fun c_90 => ?_)
                · skip
                  refine s_iinc (v := (nI k) + 1) dX4_failing_142 rfl (by rfl) (by decide) ?_
                  refine s_goto (tgt := 10) dX4_failing_145 (by decide) ?_
                  exact s_sub (lo' := [(0, .ref w.mm), (1, .int ((g_X4_failing c (k + 1)).1)), (2, .long ((g_X4_failing c (k + 1)).2.1)), (4, .long ((g_X4_failing c (k + 1)).2.2)), (6, .int (nI (k + 1)))]) (List.forall_mem_cons.mpr ⟨rfl, List.forall_mem_cons.mpr ⟨congrArg (fun z => some (Value.int z)) (Eq.symm (by rw [g_X4_failing_s, if_pos c_20, if_pos c_30, if_neg c_41, if_pos c_69, if_neg c_79, if_neg c_90])), List.forall_mem_cons.mpr ⟨congrArg (fun z => some (Value.long z)) (Eq.symm (by rw [g_X4_failing_s, if_pos c_20, if_pos c_30, if_neg c_41, if_pos c_69, if_neg c_79, if_neg c_90])), List.forall_mem_cons.mpr ⟨congrArg (fun z => some (Value.long z)) (Eq.symm (by rw [g_X4_failing_s, if_pos c_20, if_pos c_30, if_neg c_41, if_pos c_69, if_neg c_79, if_neg c_90])), List.forall_mem_cons.mpr ⟨congrArg (fun z => some (Value.int z)) (nI_1 k), fun _ h => absurd h List.not_mem_nil⟩⟩⟩⟩⟩) (Nat.zero_le _) (Nat.zero_le _) (ih (k + 1) (by omega))
                · skip
                  refine s_aloadn dX4_failing_93 rfl rfl ?_
                  refine s_getR (n := 76) dX4_failing_94 rfl hW.mm (fun _ _ _ => rfl) (hW.rr 15 (by decide)).1 ?_
                  refine s_iload dX4_failing_97 rfl ?_
                  refine s_zald' (j := k) dX4_failing_99 ((hW.rr 15 (by decide)).2.1) rfl (by rw [(hW.rr 15 (by decide)).2.2]; exact (Nat.lt_of_lt_of_le hlt hn)) (by rw [(hW.rr 15 (by decide)).2.2]; decide) ?_
                  rw [hW.ai 15 (by decide)]
                  refine s_ifne (tgt := 142) dX4_failing_100 (by decide) (fun c_100 => ?_) (fun c_100 => ?_)
                  · skip
                    refine s_iinc (v := (nI k) + 1) dX4_failing_142 rfl (by rfl) (by decide) ?_
                    refine s_goto (tgt := 10) dX4_failing_145 (by decide) ?_
                    exact s_sub (lo' := [(0, .ref w.mm), (1, .int ((g_X4_failing c (k + 1)).1)), (2, .long ((g_X4_failing c (k + 1)).2.1)), (4, .long ((g_X4_failing c (k + 1)).2.2)), (6, .int (nI (k + 1)))]) (List.forall_mem_cons.mpr ⟨rfl, List.forall_mem_cons.mpr ⟨congrArg (fun z => some (Value.int z)) (Eq.symm (by rw [g_X4_failing_s, if_pos c_20, if_pos c_30, if_neg c_41, if_pos c_69, if_neg c_79, if_pos c_90, if_neg c_100])), List.forall_mem_cons.mpr ⟨congrArg (fun z => some (Value.long z)) (Eq.symm (by rw [g_X4_failing_s, if_pos c_20, if_pos c_30, if_neg c_41, if_pos c_69, if_neg c_79, if_pos c_90, if_neg c_100])), List.forall_mem_cons.mpr ⟨congrArg (fun z => some (Value.long z)) (Eq.symm (by rw [g_X4_failing_s, if_pos c_20, if_pos c_30, if_neg c_41, if_pos c_69, if_neg c_79, if_pos c_90, if_neg c_100])), List.forall_mem_cons.mpr ⟨congrArg (fun z => some (Value.int z)) (nI_1 k), fun _ h => absurd h List.not_mem_nil⟩⟩⟩⟩⟩) (Nat.zero_le _) (Nat.zero_le _) (ih (k + 1) (by omega))
                  · skip
                    refine s_lloadn dX4_failing_103 rfl rfl ?_
                    refine s_aloadn dX4_failing_104 rfl rfl ?_
                    refine s_iload dX4_failing_105 rfl ?_
                    refine s_cv1R (n := 52) dX4_failing_107 rfl (kv hW.mm (by decide) rfl) rfl (by decide) (by decide) (by decide) (by decide) (Nat.le_of_ble_eq_true rfl) (m_X4_owed hW (Nat.lt_of_lt_of_le hlt hn)) ?_
                    refine s_ladd dX4_failing_110 ?_
                    refine s_lstoren dX4_failing_111 rfl (by decide) ?_
                    refine s_lload dX4_failing_112 rfl ?_
                    refine s_aloadn dX4_failing_114 rfl rfl ?_
                    refine s_getR (n := 98) dX4_failing_115 rfl hW.mm (fun _ _ _ => rfl) (hW.rr 37 (by decide)).1 ?_
                    refine s_aloadn dX4_failing_118 rfl rfl ?_
                    refine s_getR (n := 70) dX4_failing_119 rfl hW.mm (fun _ _ _ => rfl) (hW.rr 9 (by decide)).1 ?_
                    refine s_iload dX4_failing_122 rfl ?_
                    refine s_iald' (j := k) dX4_failing_124 ((hW.rr 9 (by decide)).2.1) rfl (by rw [(hW.rr 9 (by decide)).2.2]; exact (Nat.lt_of_lt_of_le hlt hn)) (by rw [(hW.rr 9 (by decide)).2.2]; decide) ?_
                    rw [hW.ai 9 (by decide)]
                    refine s_zald' (j := (ix (c.ai 9 k))) dX4_failing_125 ((hW.rr 37 (by decide)).2.1) (ix_nI (hL k hlt).1).symm (by rw [(hW.rr 37 (by decide)).2.2]; exact (ix_of (hL k hlt).1 (hL k hlt).2 (by decide))) (by rw [(hW.rr 37 (by decide)).2.2]; decide) ?_
                    rw [hW.ai 37 (by decide)]
                    refine s_ifeq (tgt := 138) dX4_failing_126 (by decide) (fun c_126 => ?_) (fun c_126 => ?_)
                    · skip
                      refine s_lconst (v := 0) dX4_failing_138 (by decide) ?_
                      refine s_ladd dX4_failing_139 ?_
                      refine s_lstore dX4_failing_140 (by decide) ?_
                      refine s_iinc (v := (nI k) + 1) dX4_failing_142 rfl (by rfl) (by decide) ?_
                      refine s_goto (tgt := 10) dX4_failing_145 (by decide) ?_
                      exact s_sub (lo' := [(0, .ref w.mm), (1, .int ((g_X4_failing c (k + 1)).1)), (2, .long ((g_X4_failing c (k + 1)).2.1)), (4, .long ((g_X4_failing c (k + 1)).2.2)), (6, .int (nI (k + 1)))]) (List.forall_mem_cons.mpr ⟨rfl, List.forall_mem_cons.mpr ⟨congrArg (fun z => some (Value.int z)) (Eq.symm (by rw [g_X4_failing_s, if_pos c_20, if_pos c_30, if_neg c_41, if_pos c_69, if_neg c_79, if_pos c_90, if_pos c_100, if_pos c_126])), List.forall_mem_cons.mpr ⟨congrArg (fun z => some (Value.long z)) (Eq.symm (by rw [g_X4_failing_s, if_pos c_20, if_pos c_30, if_neg c_41, if_pos c_69, if_neg c_79, if_pos c_90, if_pos c_100, if_pos c_126])), List.forall_mem_cons.mpr ⟨congrArg (fun z => some (Value.long z)) (Eq.symm (by rw [g_X4_failing_s, if_pos c_20, if_pos c_30, if_neg c_41, if_pos c_69, if_neg c_79, if_pos c_90, if_pos c_100, if_pos c_126])), List.forall_mem_cons.mpr ⟨congrArg (fun z => some (Value.int z)) (nI_1 k), fun _ h => absurd h List.not_mem_nil⟩⟩⟩⟩⟩) (Nat.zero_le _) (Nat.zero_le _) (ih (k + 1) (by omega))
                    · skip
                      refine s_aloadn dX4_failing_129 rfl rfl ?_
                      refine s_iload dX4_failing_130 rfl ?_
                      refine s_cv1R (n := 52) dX4_failing_132 rfl (kv hW.mm (by decide) rfl) rfl (by decide) (by decide) (by decide) (by decide) (Nat.le_of_ble_eq_true rfl) (m_X4_owed hW (Nat.lt_of_lt_of_le hlt hn)) ?_
                      refine s_goto (tgt := 139) dX4_failing_135 (by decide) ?_
                      refine s_ladd dX4_failing_139 ?_
                      refine s_lstore dX4_failing_140 (by decide) ?_
                      refine s_iinc (v := (nI k) + 1) dX4_failing_142 rfl (by rfl) (by decide) ?_
                      refine s_goto (tgt := 10) dX4_failing_145 (by decide) ?_
                      exact s_sub (lo' := [(0, .ref w.mm), (1, .int ((g_X4_failing c (k + 1)).1)), (2, .long ((g_X4_failing c (k + 1)).2.1)), (4, .long ((g_X4_failing c (k + 1)).2.2)), (6, .int (nI (k + 1)))]) (List.forall_mem_cons.mpr ⟨rfl, List.forall_mem_cons.mpr ⟨congrArg (fun z => some (Value.int z)) (Eq.symm (by rw [g_X4_failing_s, if_pos c_20, if_pos c_30, if_neg c_41, if_pos c_69, if_neg c_79, if_pos c_90, if_pos c_100, if_neg c_126])), List.forall_mem_cons.mpr ⟨congrArg (fun z => some (Value.long z)) (Eq.symm (by rw [g_X4_failing_s, if_pos c_20, if_pos c_30, if_neg c_41, if_pos c_69, if_neg c_79, if_pos c_90, if_pos c_100, if_neg c_126])), List.forall_mem_cons.mpr ⟨congrArg (fun z => some (Value.long z)) (Eq.symm (by rw [g_X4_failing_s, if_pos c_20, if_pos c_30, if_neg c_41, if_pos c_69, if_neg c_79, if_pos c_90, if_pos c_100, if_neg c_126])), List.forall_mem_cons.mpr ⟨congrArg (fun z => some (Value.int z)) (nI_1 k), fun _ h => absurd h List.not_mem_nil⟩⟩⟩⟩⟩) (Nat.zero_le _) (Nat.zero_le _) (ih (k + 1) (by omega))
          · skip
            refine s_aloadn dX4_failing_44 rfl rfl ?_
            refine s_getR (n := 78) dX4_failing_45 rfl hW.mm (fun _ _ _ => rfl) (hW.rr 17 (by decide)).1 ?_
            refine s_iload dX4_failing_48 rfl ?_
            refine s_lald' (j := k) dX4_failing_50 (Or.inr (Or.inl (hW.rr 17 (by decide)).2.1)) rfl (by rw [(hW.rr 17 (by decide)).2.2]; exact (Nat.lt_of_lt_of_le hlt hn)) (by rw [(hW.rr 17 (by decide)).2.2]; decide) ?_
            rw [hW.aj 17 (by decide)]
            refine s_lconst (v := 0) dX4_failing_51 (by decide) ?_
            refine s_lcle (tgt := 60) dX4_failing_52 dX4_failing_53 (by decide) (fun c_52 => ?_) (fun c_52 => ?_)
            · skip
              refine s_iconst (v := 0) dX4_failing_60 (by decide) ?_
              refine s_istoren dX4_failing_61 rfl (by decide) ?_
              refine s_aloadn dX4_failing_62 rfl rfl ?_
              refine s_getR (n := 77) dX4_failing_63 rfl hW.mm (fun _ _ _ => rfl) (hW.rr 16 (by decide)).1 ?_
              refine s_iload dX4_failing_66 rfl ?_
              refine s_iald' (j := k) dX4_failing_68 ((hW.rr 16 (by decide)).2.1) rfl (by rw [(hW.rr 16 (by decide)).2.2]; exact (Nat.lt_of_lt_of_le hlt hn)) (by rw [(hW.rr 16 (by decide)).2.2]; decide) ?_
              rw [hW.ai 16 (by decide)]
              refine s_ifne (tgt := 142) dX4_failing_69 (by decide) (fun c_69 => ?_) (fun c_69 => ?_)
              · skip
                refine s_iinc (v := (nI k) + 1) dX4_failing_142 rfl (by rfl) (by decide) ?_
                refine s_goto (tgt := 10) dX4_failing_145 (by decide) ?_
                exact s_sub (lo' := [(0, .ref w.mm), (1, .int ((g_X4_failing c (k + 1)).1)), (2, .long ((g_X4_failing c (k + 1)).2.1)), (4, .long ((g_X4_failing c (k + 1)).2.2)), (6, .int (nI (k + 1)))]) (List.forall_mem_cons.mpr ⟨rfl, List.forall_mem_cons.mpr ⟨congrArg (fun z => some (Value.int z)) (Eq.symm (by rw [g_X4_failing_s, if_pos c_20, if_pos c_30, if_pos c_41, if_pos c_52, if_neg c_69])), List.forall_mem_cons.mpr ⟨congrArg (fun z => some (Value.long z)) (Eq.symm (by rw [g_X4_failing_s, if_pos c_20, if_pos c_30, if_pos c_41, if_pos c_52, if_neg c_69])), List.forall_mem_cons.mpr ⟨congrArg (fun z => some (Value.long z)) (Eq.symm (by rw [g_X4_failing_s, if_pos c_20, if_pos c_30, if_pos c_41, if_pos c_52, if_neg c_69])), List.forall_mem_cons.mpr ⟨congrArg (fun z => some (Value.int z)) (nI_1 k), fun _ h => absurd h List.not_mem_nil⟩⟩⟩⟩⟩) (Nat.zero_le _) (Nat.zero_le _) (ih (k + 1) (by omega))
              · skip
                refine s_aloadn dX4_failing_72 rfl rfl ?_
                refine s_getR (n := 69) dX4_failing_73 rfl hW.mm (fun _ _ _ => rfl) (hW.rr 8 (by decide)).1 ?_
                refine s_iload dX4_failing_76 rfl ?_
                refine s_iald' (j := k) dX4_failing_78 ((hW.rr 8 (by decide)).2.1) rfl (by rw [(hW.rr 8 (by decide)).2.2]; exact (Nat.lt_of_lt_of_le hlt hn)) (by rw [(hW.rr 8 (by decide)).2.2]; decide) ?_
                rw [hW.ai 8 (by decide)]
                refine s_ifeq (tgt := 93) dX4_failing_79 (by decide) (fun c_79 => ?_) (fun c_79 => ?_)
                · skip
                  refine s_aloadn dX4_failing_93 rfl rfl ?_
                  refine s_getR (n := 76) dX4_failing_94 rfl hW.mm (fun _ _ _ => rfl) (hW.rr 15 (by decide)).1 ?_
                  refine s_iload dX4_failing_97 rfl ?_
                  refine s_zald' (j := k) dX4_failing_99 ((hW.rr 15 (by decide)).2.1) rfl (by rw [(hW.rr 15 (by decide)).2.2]; exact (Nat.lt_of_lt_of_le hlt hn)) (by rw [(hW.rr 15 (by decide)).2.2]; decide) ?_
                  rw [hW.ai 15 (by decide)]
                  refine s_ifne (tgt := 142) dX4_failing_100 (by decide) (fun c_100 => ?_) (fun c_100 => ?_)
                  · skip
                    refine s_iinc (v := (nI k) + 1) dX4_failing_142 rfl (by rfl) (by decide) ?_
                    refine s_goto (tgt := 10) dX4_failing_145 (by decide) ?_
                    exact s_sub (lo' := [(0, .ref w.mm), (1, .int ((g_X4_failing c (k + 1)).1)), (2, .long ((g_X4_failing c (k + 1)).2.1)), (4, .long ((g_X4_failing c (k + 1)).2.2)), (6, .int (nI (k + 1)))]) (List.forall_mem_cons.mpr ⟨rfl, List.forall_mem_cons.mpr ⟨congrArg (fun z => some (Value.int z)) (Eq.symm (by rw [g_X4_failing_s, if_pos c_20, if_pos c_30, if_pos c_41, if_pos c_52, if_pos c_69, if_pos c_79, if_neg c_100])), List.forall_mem_cons.mpr ⟨congrArg (fun z => some (Value.long z)) (Eq.symm (by rw [g_X4_failing_s, if_pos c_20, if_pos c_30, if_pos c_41, if_pos c_52, if_pos c_69, if_pos c_79, if_neg c_100])), List.forall_mem_cons.mpr ⟨congrArg (fun z => some (Value.long z)) (Eq.symm (by rw [g_X4_failing_s, if_pos c_20, if_pos c_30, if_pos c_41, if_pos c_52, if_pos c_69, if_pos c_79, if_neg c_100])), List.forall_mem_cons.mpr ⟨congrArg (fun z => some (Value.int z)) (nI_1 k), fun _ h => absurd h List.not_mem_nil⟩⟩⟩⟩⟩) (Nat.zero_le _) (Nat.zero_le _) (ih (k + 1) (by omega))
                  · skip
                    refine s_lloadn dX4_failing_103 rfl rfl ?_
                    refine s_aloadn dX4_failing_104 rfl rfl ?_
                    refine s_iload dX4_failing_105 rfl ?_
                    refine s_cv1R (n := 52) dX4_failing_107 rfl (kv hW.mm (by decide) rfl) rfl (by decide) (by decide) (by decide) (by decide) (Nat.le_of_ble_eq_true rfl) (m_X4_owed hW (Nat.lt_of_lt_of_le hlt hn)) ?_
                    refine s_ladd dX4_failing_110 ?_
                    refine s_lstoren dX4_failing_111 rfl (by decide) ?_
                    refine s_lload dX4_failing_112 rfl ?_
                    refine s_aloadn dX4_failing_114 rfl rfl ?_
                    refine s_getR (n := 98) dX4_failing_115 rfl hW.mm (fun _ _ _ => rfl) (hW.rr 37 (by decide)).1 ?_
                    refine s_aloadn dX4_failing_118 rfl rfl ?_
                    refine s_getR (n := 70) dX4_failing_119 rfl hW.mm (fun _ _ _ => rfl) (hW.rr 9 (by decide)).1 ?_
                    refine s_iload dX4_failing_122 rfl ?_
                    refine s_iald' (j := k) dX4_failing_124 ((hW.rr 9 (by decide)).2.1) rfl (by rw [(hW.rr 9 (by decide)).2.2]; exact (Nat.lt_of_lt_of_le hlt hn)) (by rw [(hW.rr 9 (by decide)).2.2]; decide) ?_
                    rw [hW.ai 9 (by decide)]
                    refine s_zald' (j := (ix (c.ai 9 k))) dX4_failing_125 ((hW.rr 37 (by decide)).2.1) (ix_nI (hL k hlt).1).symm (by rw [(hW.rr 37 (by decide)).2.2]; exact (ix_of (hL k hlt).1 (hL k hlt).2 (by decide))) (by rw [(hW.rr 37 (by decide)).2.2]; decide) ?_
                    rw [hW.ai 37 (by decide)]
                    refine s_ifeq (tgt := 138) dX4_failing_126 (by decide) (fun c_126 => ?_) (fun c_126 => ?_)
                    · skip
                      refine s_lconst (v := 0) dX4_failing_138 (by decide) ?_
                      refine s_ladd dX4_failing_139 ?_
                      refine s_lstore dX4_failing_140 (by decide) ?_
                      refine s_iinc (v := (nI k) + 1) dX4_failing_142 rfl (by rfl) (by decide) ?_
                      refine s_goto (tgt := 10) dX4_failing_145 (by decide) ?_
                      exact s_sub (lo' := [(0, .ref w.mm), (1, .int ((g_X4_failing c (k + 1)).1)), (2, .long ((g_X4_failing c (k + 1)).2.1)), (4, .long ((g_X4_failing c (k + 1)).2.2)), (6, .int (nI (k + 1)))]) (List.forall_mem_cons.mpr ⟨rfl, List.forall_mem_cons.mpr ⟨congrArg (fun z => some (Value.int z)) (Eq.symm (by rw [g_X4_failing_s, if_pos c_20, if_pos c_30, if_pos c_41, if_pos c_52, if_pos c_69, if_pos c_79, if_pos c_100, if_pos c_126])), List.forall_mem_cons.mpr ⟨congrArg (fun z => some (Value.long z)) (Eq.symm (by rw [g_X4_failing_s, if_pos c_20, if_pos c_30, if_pos c_41, if_pos c_52, if_pos c_69, if_pos c_79, if_pos c_100, if_pos c_126])), List.forall_mem_cons.mpr ⟨congrArg (fun z => some (Value.long z)) (Eq.symm (by rw [g_X4_failing_s, if_pos c_20, if_pos c_30, if_pos c_41, if_pos c_52, if_pos c_69, if_pos c_79, if_pos c_100, if_pos c_126])), List.forall_mem_cons.mpr ⟨congrArg (fun z => some (Value.int z)) (nI_1 k), fun _ h => absurd h List.not_mem_nil⟩⟩⟩⟩⟩) (Nat.zero_le _) (Nat.zero_le _) (ih (k + 1) (by omega))
                    · skip
                      refine s_aloadn dX4_failing_129 rfl rfl ?_
                      refine s_iload dX4_failing_130 rfl ?_
                      refine s_cv1R (n := 52) dX4_failing_132 rfl (kv hW.mm (by decide) rfl) rfl (by decide) (by decide) (by decide) (by decide) (Nat.le_of_ble_eq_true rfl) (m_X4_owed hW (Nat.lt_of_lt_of_le hlt hn)) ?_
                      refine s_goto (tgt := 139) dX4_failing_135 (by decide) ?_
                      refine s_ladd dX4_failing_139 ?_
                      refine s_lstore dX4_failing_140 (by decide) ?_
                      refine s_iinc (v := (nI k) + 1) dX4_failing_142 rfl (by rfl) (by decide) ?_
                      refine s_goto (tgt := 10) dX4_failing_145 (by decide) ?_
                      exact s_sub (lo' := [(0, .ref w.mm), (1, .int ((g_X4_failing c (k + 1)).1)), (2, .long ((g_X4_failing c (k + 1)).2.1)), (4, .long ((g_X4_failing c (k + 1)).2.2)), (6, .int (nI (k + 1)))]) (List.forall_mem_cons.mpr ⟨rfl, List.forall_mem_cons.mpr ⟨congrArg (fun z => some (Value.int z)) (Eq.symm (by rw [g_X4_failing_s, if_pos c_20, if_pos c_30, if_pos c_41, if_pos c_52, if_pos c_69, if_pos c_79, if_pos c_100, if_neg c_126])), List.forall_mem_cons.mpr ⟨congrArg (fun z => some (Value.long z)) (Eq.symm (by rw [g_X4_failing_s, if_pos c_20, if_pos c_30, if_pos c_41, if_pos c_52, if_pos c_69, if_pos c_79, if_pos c_100, if_neg c_126])), List.forall_mem_cons.mpr ⟨congrArg (fun z => some (Value.long z)) (Eq.symm (by rw [g_X4_failing_s, if_pos c_20, if_pos c_30, if_pos c_41, if_pos c_52, if_pos c_69, if_pos c_79, if_pos c_100, if_neg c_126])), List.forall_mem_cons.mpr ⟨congrArg (fun z => some (Value.int z)) (nI_1 k), fun _ h => absurd h List.not_mem_nil⟩⟩⟩⟩⟩) (Nat.zero_le _) (Nat.zero_le _) (ih (k + 1) (by omega))
                · skip
                  refine s_aloadn dX4_failing_82 rfl rfl ?_
                  refine s_getR (n := 69) dX4_failing_83 rfl hW.mm (fun _ _ _ => rfl) (hW.rr 8 (by decide)).1 ?_
                  refine s_iload dX4_failing_86 rfl ?_
                  refine s_iald' (j := k) dX4_failing_88 ((hW.rr 8 (by decide)).2.1) rfl (by rw [(hW.rr 8 (by decide)).2.2]; exact (Nat.lt_of_lt_of_le hlt hn)) (by rw [(hW.rr 8 (by decide)).2.2]; decide) ?_
                  rw [hW.ai 8 (by decide)]
                  refine s_iconst (v := 2) dX4_failing_89 (by decide) ?_
                  refine s_icne (tgt := 142) dX4_failing_90 (by decide) (fun c_90 => ?_) (fun c_90 => ?_)
                  · skip
                    refine s_iinc (v := (nI k) + 1) dX4_failing_142 rfl (by rfl) (by decide) ?_
                    refine s_goto (tgt := 10) dX4_failing_145 (by decide) ?_
                    exact s_sub (lo' := [(0, .ref w.mm), (1, .int ((g_X4_failing c (k + 1)).1)), (2, .long ((g_X4_failing c (k + 1)).2.1)), (4, .long ((g_X4_failing c (k + 1)).2.2)), (6, .int (nI (k + 1)))]) (List.forall_mem_cons.mpr ⟨rfl, List.forall_mem_cons.mpr ⟨congrArg (fun z => some (Value.int z)) (Eq.symm (by rw [g_X4_failing_s, if_pos c_20, if_pos c_30, if_pos c_41, if_pos c_52, if_pos c_69, if_neg c_79, if_neg c_90])), List.forall_mem_cons.mpr ⟨congrArg (fun z => some (Value.long z)) (Eq.symm (by rw [g_X4_failing_s, if_pos c_20, if_pos c_30, if_pos c_41, if_pos c_52, if_pos c_69, if_neg c_79, if_neg c_90])), List.forall_mem_cons.mpr ⟨congrArg (fun z => some (Value.long z)) (Eq.symm (by rw [g_X4_failing_s, if_pos c_20, if_pos c_30, if_pos c_41, if_pos c_52, if_pos c_69, if_neg c_79, if_neg c_90])), List.forall_mem_cons.mpr ⟨congrArg (fun z => some (Value.int z)) (nI_1 k), fun _ h => absurd h List.not_mem_nil⟩⟩⟩⟩⟩) (Nat.zero_le _) (Nat.zero_le _) (ih (k + 1) (by omega))
                  · skip
                    refine s_aloadn dX4_failing_93 rfl rfl ?_
                    refine s_getR (n := 76) dX4_failing_94 rfl hW.mm (fun _ _ _ => rfl) (hW.rr 15 (by decide)).1 ?_
                    refine s_iload dX4_failing_97 rfl ?_
                    refine s_zald' (j := k) dX4_failing_99 ((hW.rr 15 (by decide)).2.1) rfl (by rw [(hW.rr 15 (by decide)).2.2]; exact (Nat.lt_of_lt_of_le hlt hn)) (by rw [(hW.rr 15 (by decide)).2.2]; decide) ?_
                    rw [hW.ai 15 (by decide)]
                    refine s_ifne (tgt := 142) dX4_failing_100 (by decide) (fun c_100 => ?_) (fun c_100 => ?_)
                    · skip
                      refine s_iinc (v := (nI k) + 1) dX4_failing_142 rfl (by rfl) (by decide) ?_
                      refine s_goto (tgt := 10) dX4_failing_145 (by decide) ?_
                      exact s_sub (lo' := [(0, .ref w.mm), (1, .int ((g_X4_failing c (k + 1)).1)), (2, .long ((g_X4_failing c (k + 1)).2.1)), (4, .long ((g_X4_failing c (k + 1)).2.2)), (6, .int (nI (k + 1)))]) (List.forall_mem_cons.mpr ⟨rfl, List.forall_mem_cons.mpr ⟨congrArg (fun z => some (Value.int z)) (Eq.symm (by rw [g_X4_failing_s, if_pos c_20, if_pos c_30, if_pos c_41, if_pos c_52, if_pos c_69, if_neg c_79, if_pos c_90, if_neg c_100])), List.forall_mem_cons.mpr ⟨congrArg (fun z => some (Value.long z)) (Eq.symm (by rw [g_X4_failing_s, if_pos c_20, if_pos c_30, if_pos c_41, if_pos c_52, if_pos c_69, if_neg c_79, if_pos c_90, if_neg c_100])), List.forall_mem_cons.mpr ⟨congrArg (fun z => some (Value.long z)) (Eq.symm (by rw [g_X4_failing_s, if_pos c_20, if_pos c_30, if_pos c_41, if_pos c_52, if_pos c_69, if_neg c_79, if_pos c_90, if_neg c_100])), List.forall_mem_cons.mpr ⟨congrArg (fun z => some (Value.int z)) (nI_1 k), fun _ h => absurd h List.not_mem_nil⟩⟩⟩⟩⟩) (Nat.zero_le _) (Nat.zero_le _) (ih (k + 1) (by omega))
                    · skip
                      refine s_lloadn dX4_failing_103 rfl rfl ?_
                      refine s_aloadn dX4_failing_104 rfl rfl ?_
                      refine s_iload dX4_failing_105 rfl ?_
                      refine s_cv1R (n := 52) dX4_failing_107 rfl (kv hW.mm (by decide) rfl) rfl (by decide) (by decide) (by decide) (by decide) (Nat.le_of_ble_eq_true rfl) (m_X4_owed hW (Nat.lt_of_lt_of_le hlt hn)) ?_
                      refine s_ladd dX4_failing_110 ?_
                      refine s_lstoren dX4_failing_111 rfl (by decide) ?_
                      refine s_lload dX4_failing_112 rfl ?_
                      refine s_aloadn dX4_failing_114 rfl rfl ?_
                      refine s_getR (n := 98) dX4_failing_115 rfl hW.mm (fun _ _ _ => rfl) (hW.rr 37 (by decide)).1 ?_
                      refine s_aloadn dX4_failing_118 rfl rfl ?_
                      refine s_getR (n := 70) dX4_failing_119 rfl hW.mm (fun _ _ _ => rfl) (hW.rr 9 (by decide)).1 ?_
                      refine s_iload dX4_failing_122 rfl ?_
                      refine s_iald' (j := k) dX4_failing_124 ((hW.rr 9 (by decide)).2.1) rfl (by rw [(hW.rr 9 (by decide)).2.2]; exact (Nat.lt_of_lt_of_le hlt hn)) (by rw [(hW.rr 9 (by decide)).2.2]; decide) ?_
                      rw [hW.ai 9 (by decide)]
                      refine s_zald' (j := (ix (c.ai 9 k))) dX4_failing_125 ((hW.rr 37 (by decide)).2.1) (ix_nI (hL k hlt).1).symm (by rw [(hW.rr 37 (by decide)).2.2]; exact (ix_of (hL k hlt).1 (hL k hlt).2 (by decide))) (by rw [(hW.rr 37 (by decide)).2.2]; decide) ?_
                      rw [hW.ai 37 (by decide)]
                      refine s_ifeq (tgt := 138) dX4_failing_126 (by decide) (fun c_126 => ?_) (fun c_126 => ?_)
                      · skip
                        refine s_lconst (v := 0) dX4_failing_138 (by decide) ?_
                        refine s_ladd dX4_failing_139 ?_
                        refine s_lstore dX4_failing_140 (by decide) ?_
                        refine s_iinc (v := (nI k) + 1) dX4_failing_142 rfl (by rfl) (by decide) ?_
                        refine s_goto (tgt := 10) dX4_failing_145 (by decide) ?_
                        exact s_sub (lo' := [(0, .ref w.mm), (1, .int ((g_X4_failing c (k + 1)).1)), (2, .long ((g_X4_failing c (k + 1)).2.1)), (4, .long ((g_X4_failing c (k + 1)).2.2)), (6, .int (nI (k + 1)))]) (List.forall_mem_cons.mpr ⟨rfl, List.forall_mem_cons.mpr ⟨congrArg (fun z => some (Value.int z)) (Eq.symm (by rw [g_X4_failing_s, if_pos c_20, if_pos c_30, if_pos c_41, if_pos c_52, if_pos c_69, if_neg c_79, if_pos c_90, if_pos c_100, if_pos c_126])), List.forall_mem_cons.mpr ⟨congrArg (fun z => some (Value.long z)) (Eq.symm (by rw [g_X4_failing_s, if_pos c_20, if_pos c_30, if_pos c_41, if_pos c_52, if_pos c_69, if_neg c_79, if_pos c_90, if_pos c_100, if_pos c_126])), List.forall_mem_cons.mpr ⟨congrArg (fun z => some (Value.long z)) (Eq.symm (by rw [g_X4_failing_s, if_pos c_20, if_pos c_30, if_pos c_41, if_pos c_52, if_pos c_69, if_neg c_79, if_pos c_90, if_pos c_100, if_pos c_126])), List.forall_mem_cons.mpr ⟨congrArg (fun z => some (Value.int z)) (nI_1 k), fun _ h => absurd h List.not_mem_nil⟩⟩⟩⟩⟩) (Nat.zero_le _) (Nat.zero_le _) (ih (k + 1) (by omega))
                      · skip
                        refine s_aloadn dX4_failing_129 rfl rfl ?_
                        refine s_iload dX4_failing_130 rfl ?_
                        refine s_cv1R (n := 52) dX4_failing_132 rfl (kv hW.mm (by decide) rfl) rfl (by decide) (by decide) (by decide) (by decide) (Nat.le_of_ble_eq_true rfl) (m_X4_owed hW (Nat.lt_of_lt_of_le hlt hn)) ?_
                        refine s_goto (tgt := 139) dX4_failing_135 (by decide) ?_
                        refine s_ladd dX4_failing_139 ?_
                        refine s_lstore dX4_failing_140 (by decide) ?_
                        refine s_iinc (v := (nI k) + 1) dX4_failing_142 rfl (by rfl) (by decide) ?_
                        refine s_goto (tgt := 10) dX4_failing_145 (by decide) ?_
                        exact s_sub (lo' := [(0, .ref w.mm), (1, .int ((g_X4_failing c (k + 1)).1)), (2, .long ((g_X4_failing c (k + 1)).2.1)), (4, .long ((g_X4_failing c (k + 1)).2.2)), (6, .int (nI (k + 1)))]) (List.forall_mem_cons.mpr ⟨rfl, List.forall_mem_cons.mpr ⟨congrArg (fun z => some (Value.int z)) (Eq.symm (by rw [g_X4_failing_s, if_pos c_20, if_pos c_30, if_pos c_41, if_pos c_52, if_pos c_69, if_neg c_79, if_pos c_90, if_pos c_100, if_neg c_126])), List.forall_mem_cons.mpr ⟨congrArg (fun z => some (Value.long z)) (Eq.symm (by rw [g_X4_failing_s, if_pos c_20, if_pos c_30, if_pos c_41, if_pos c_52, if_pos c_69, if_neg c_79, if_pos c_90, if_pos c_100, if_neg c_126])), List.forall_mem_cons.mpr ⟨congrArg (fun z => some (Value.long z)) (Eq.symm (by rw [g_X4_failing_s, if_pos c_20, if_pos c_30, if_pos c_41, if_pos c_52, if_pos c_69, if_neg c_79, if_pos c_90, if_pos c_100, if_neg c_126])), List.forall_mem_cons.mpr ⟨congrArg (fun z => some (Value.int z)) (nI_1 k), fun _ h => absurd h List.not_mem_nil⟩⟩⟩⟩⟩) (Nat.zero_le _) (Nat.zero_le _) (ih (k + 1) (by omega))
            · skip
              refine s_iconst (v := 1) dX4_failing_56 (by decide) ?_
              refine s_goto (tgt := 61) dX4_failing_57 (by decide) ?_
              refine s_istoren dX4_failing_61 rfl (by decide) ?_
              refine s_aloadn dX4_failing_62 rfl rfl ?_
              refine s_getR (n := 77) dX4_failing_63 rfl hW.mm (fun _ _ _ => rfl) (hW.rr 16 (by decide)).1 ?_
              refine s_iload dX4_failing_66 rfl ?_
              refine s_iald' (j := k) dX4_failing_68 ((hW.rr 16 (by decide)).2.1) rfl (by rw [(hW.rr 16 (by decide)).2.2]; exact (Nat.lt_of_lt_of_le hlt hn)) (by rw [(hW.rr 16 (by decide)).2.2]; decide) ?_
              rw [hW.ai 16 (by decide)]
              refine s_ifne (tgt := 142) dX4_failing_69 (by decide) (fun c_69 => ?_) (fun c_69 => ?_)
              · skip
                refine s_iinc (v := (nI k) + 1) dX4_failing_142 rfl (by rfl) (by decide) ?_
                refine s_goto (tgt := 10) dX4_failing_145 (by decide) ?_
                exact s_sub (lo' := [(0, .ref w.mm), (1, .int ((g_X4_failing c (k + 1)).1)), (2, .long ((g_X4_failing c (k + 1)).2.1)), (4, .long ((g_X4_failing c (k + 1)).2.2)), (6, .int (nI (k + 1)))]) (List.forall_mem_cons.mpr ⟨rfl, List.forall_mem_cons.mpr ⟨congrArg (fun z => some (Value.int z)) (Eq.symm (by rw [g_X4_failing_s, if_pos c_20, if_pos c_30, if_pos c_41, if_neg c_52, if_neg c_69])), List.forall_mem_cons.mpr ⟨congrArg (fun z => some (Value.long z)) (Eq.symm (by rw [g_X4_failing_s, if_pos c_20, if_pos c_30, if_pos c_41, if_neg c_52, if_neg c_69])), List.forall_mem_cons.mpr ⟨congrArg (fun z => some (Value.long z)) (Eq.symm (by rw [g_X4_failing_s, if_pos c_20, if_pos c_30, if_pos c_41, if_neg c_52, if_neg c_69])), List.forall_mem_cons.mpr ⟨congrArg (fun z => some (Value.int z)) (nI_1 k), fun _ h => absurd h List.not_mem_nil⟩⟩⟩⟩⟩) (Nat.zero_le _) (Nat.zero_le _) (ih (k + 1) (by omega))
              · skip
                refine s_aloadn dX4_failing_72 rfl rfl ?_
                refine s_getR (n := 69) dX4_failing_73 rfl hW.mm (fun _ _ _ => rfl) (hW.rr 8 (by decide)).1 ?_
                refine s_iload dX4_failing_76 rfl ?_
                refine s_iald' (j := k) dX4_failing_78 ((hW.rr 8 (by decide)).2.1) rfl (by rw [(hW.rr 8 (by decide)).2.2]; exact (Nat.lt_of_lt_of_le hlt hn)) (by rw [(hW.rr 8 (by decide)).2.2]; decide) ?_
                rw [hW.ai 8 (by decide)]
                refine s_ifeq (tgt := 93) dX4_failing_79 (by decide) (fun c_79 => ?_) (fun c_79 => ?_)
                · skip
                  refine s_aloadn dX4_failing_93 rfl rfl ?_
                  refine s_getR (n := 76) dX4_failing_94 rfl hW.mm (fun _ _ _ => rfl) (hW.rr 15 (by decide)).1 ?_
                  refine s_iload dX4_failing_97 rfl ?_
                  refine s_zald' (j := k) dX4_failing_99 ((hW.rr 15 (by decide)).2.1) rfl (by rw [(hW.rr 15 (by decide)).2.2]; exact (Nat.lt_of_lt_of_le hlt hn)) (by rw [(hW.rr 15 (by decide)).2.2]; decide) ?_
                  rw [hW.ai 15 (by decide)]
                  refine s_ifne (tgt := 142) dX4_failing_100 (by decide) (fun c_100 => ?_) (fun c_100 => ?_)
                  · skip
                    refine s_iinc (v := (nI k) + 1) dX4_failing_142 rfl (by rfl) (by decide) ?_
                    refine s_goto (tgt := 10) dX4_failing_145 (by decide) ?_
                    exact s_sub (lo' := [(0, .ref w.mm), (1, .int ((g_X4_failing c (k + 1)).1)), (2, .long ((g_X4_failing c (k + 1)).2.1)), (4, .long ((g_X4_failing c (k + 1)).2.2)), (6, .int (nI (k + 1)))]) (List.forall_mem_cons.mpr ⟨rfl, List.forall_mem_cons.mpr ⟨congrArg (fun z => some (Value.int z)) (Eq.symm (by rw [g_X4_failing_s, if_pos c_20, if_pos c_30, if_pos c_41, if_neg c_52, if_pos c_69, if_pos c_79, if_neg c_100])), List.forall_mem_cons.mpr ⟨congrArg (fun z => some (Value.long z)) (Eq.symm (by rw [g_X4_failing_s, if_pos c_20, if_pos c_30, if_pos c_41, if_neg c_52, if_pos c_69, if_pos c_79, if_neg c_100])), List.forall_mem_cons.mpr ⟨congrArg (fun z => some (Value.long z)) (Eq.symm (by rw [g_X4_failing_s, if_pos c_20, if_pos c_30, if_pos c_41, if_neg c_52, if_pos c_69, if_pos c_79, if_neg c_100])), List.forall_mem_cons.mpr ⟨congrArg (fun z => some (Value.int z)) (nI_1 k), fun _ h => absurd h List.not_mem_nil⟩⟩⟩⟩⟩) (Nat.zero_le _) (Nat.zero_le _) (ih (k + 1) (by omega))
                  · skip
                    refine s_lloadn dX4_failing_103 rfl rfl ?_
                    refine s_aloadn dX4_failing_104 rfl rfl ?_
                    refine s_iload dX4_failing_105 rfl ?_
                    refine s_cv1R (n := 52) dX4_failing_107 rfl (kv hW.mm (by decide) rfl) rfl (by decide) (by decide) (by decide) (by decide) (Nat.le_of_ble_eq_true rfl) (m_X4_owed hW (Nat.lt_of_lt_of_le hlt hn)) ?_
                    refine s_ladd dX4_failing_110 ?_
                    refine s_lstoren dX4_failing_111 rfl (by decide) ?_
                    refine s_lload dX4_failing_112 rfl ?_
                    refine s_aloadn dX4_failing_114 rfl rfl ?_
                    refine s_getR (n := 98) dX4_failing_115 rfl hW.mm (fun _ _ _ => rfl) (hW.rr 37 (by decide)).1 ?_
                    refine s_aloadn dX4_failing_118 rfl rfl ?_
                    refine s_getR (n := 70) dX4_failing_119 rfl hW.mm (fun _ _ _ => rfl) (hW.rr 9 (by decide)).1 ?_
                    refine s_iload dX4_failing_122 rfl ?_
                    refine s_iald' (j := k) dX4_failing_124 ((hW.rr 9 (by decide)).2.1) rfl (by rw [(hW.rr 9 (by decide)).2.2]; exact (Nat.lt_of_lt_of_le hlt hn)) (by rw [(hW.rr 9 (by decide)).2.2]; decide) ?_
                    rw [hW.ai 9 (by decide)]
                    refine s_zald' (j := (ix (c.ai 9 k))) dX4_failing_125 ((hW.rr 37 (by decide)).2.1) (ix_nI (hL k hlt).1).symm (by rw [(hW.rr 37 (by decide)).2.2]; exact (ix_of (hL k hlt).1 (hL k hlt).2 (by decide))) (by rw [(hW.rr 37 (by decide)).2.2]; decide) ?_
                    rw [hW.ai 37 (by decide)]
                    refine s_ifeq (tgt := 138) dX4_failing_126 (by decide) (fun c_126 => ?_) (fun c_126 => ?_)
                    · skip
                      refine s_lconst (v := 0) dX4_failing_138 (by decide) ?_
                      refine s_ladd dX4_failing_139 ?_
                      refine s_lstore dX4_failing_140 (by decide) ?_
                      refine s_iinc (v := (nI k) + 1) dX4_failing_142 rfl (by rfl) (by decide) ?_
                      refine s_goto (tgt := 10) dX4_failing_145 (by decide) ?_
                      exact s_sub (lo' := [(0, .ref w.mm), (1, .int ((g_X4_failing c (k + 1)).1)), (2, .long ((g_X4_failing c (k + 1)).2.1)), (4, .long ((g_X4_failing c (k + 1)).2.2)), (6, .int (nI (k + 1)))]) (List.forall_mem_cons.mpr ⟨rfl, List.forall_mem_cons.mpr ⟨congrArg (fun z => some (Value.int z)) (Eq.symm (by rw [g_X4_failing_s, if_pos c_20, if_pos c_30, if_pos c_41, if_neg c_52, if_pos c_69, if_pos c_79, if_pos c_100, if_pos c_126])), List.forall_mem_cons.mpr ⟨congrArg (fun z => some (Value.long z)) (Eq.symm (by rw [g_X4_failing_s, if_pos c_20, if_pos c_30, if_pos c_41, if_neg c_52, if_pos c_69, if_pos c_79, if_pos c_100, if_pos c_126])), List.forall_mem_cons.mpr ⟨congrArg (fun z => some (Value.long z)) (Eq.symm (by rw [g_X4_failing_s, if_pos c_20, if_pos c_30, if_pos c_41, if_neg c_52, if_pos c_69, if_pos c_79, if_pos c_100, if_pos c_126])), List.forall_mem_cons.mpr ⟨congrArg (fun z => some (Value.int z)) (nI_1 k), fun _ h => absurd h List.not_mem_nil⟩⟩⟩⟩⟩) (Nat.zero_le _) (Nat.zero_le _) (ih (k + 1) (by omega))
                    · skip
                      refine s_aloadn dX4_failing_129 rfl rfl ?_
                      refine s_iload dX4_failing_130 rfl ?_
                      refine s_cv1R (n := 52) dX4_failing_132 rfl (kv hW.mm (by decide) rfl) rfl (by decide) (by decide) (by decide) (by decide) (Nat.le_of_ble_eq_true rfl) (m_X4_owed hW (Nat.lt_of_lt_of_le hlt hn)) ?_
                      refine s_goto (tgt := 139) dX4_failing_135 (by decide) ?_
                      refine s_ladd dX4_failing_139 ?_
                      refine s_lstore dX4_failing_140 (by decide) ?_
                      refine s_iinc (v := (nI k) + 1) dX4_failing_142 rfl (by rfl) (by decide) ?_
                      refine s_goto (tgt := 10) dX4_failing_145 (by decide) ?_
                      exact s_sub (lo' := [(0, .ref w.mm), (1, .int ((g_X4_failing c (k + 1)).1)), (2, .long ((g_X4_failing c (k + 1)).2.1)), (4, .long ((g_X4_failing c (k + 1)).2.2)), (6, .int (nI (k + 1)))]) (List.forall_mem_cons.mpr ⟨rfl, List.forall_mem_cons.mpr ⟨congrArg (fun z => some (Value.int z)) (Eq.symm (by rw [g_X4_failing_s, if_pos c_20, if_pos c_30, if_pos c_41, if_neg c_52, if_pos c_69, if_pos c_79, if_pos c_100, if_neg c_126])), List.forall_mem_cons.mpr ⟨congrArg (fun z => some (Value.long z)) (Eq.symm (by rw [g_X4_failing_s, if_pos c_20, if_pos c_30, if_pos c_41, if_neg c_52, if_pos c_69, if_pos c_79, if_pos c_100, if_neg c_126])), List.forall_mem_cons.mpr ⟨congrArg (fun z => some (Value.long z)) (Eq.symm (by rw [g_X4_failing_s, if_pos c_20, if_pos c_30, if_pos c_41, if_neg c_52, if_pos c_69, if_pos c_79, if_pos c_100, if_neg c_126])), List.forall_mem_cons.mpr ⟨congrArg (fun z => some (Value.int z)) (nI_1 k), fun _ h => absurd h List.not_mem_nil⟩⟩⟩⟩⟩) (Nat.zero_le _) (Nat.zero_le _) (ih (k + 1) (by omega))
                · skip
                  refine s_aloadn dX4_failing_82 rfl rfl ?_
                  refine s_getR (n := 69) dX4_failing_83 rfl hW.mm (fun _ _ _ => rfl) (hW.rr 8 (by decide)).1 ?_
                  refine s_iload dX4_failing_86 rfl ?_
                  refine s_iald' (j := k) dX4_failing_88 ((hW.rr 8 (by decide)).2.1) rfl (by rw [(hW.rr 8 (by decide)).2.2]; exact (Nat.lt_of_lt_of_le hlt hn)) (by rw [(hW.rr 8 (by decide)).2.2]; decide) ?_
                  rw [hW.ai 8 (by decide)]
                  refine s_iconst (v := 2) dX4_failing_89 (by decide) ?_
                  refine s_icne (tgt := 142) dX4_failing_90 (by decide) (fun c_90 => ?_) (fun c_90 => ?_)
                  · skip
                    refine s_iinc (v := (nI k) + 1) dX4_failing_142 rfl (by rfl) (by decide) ?_
                    refine s_goto (tgt := 10) dX4_failing_145 (by decide) ?_
                    exact s_sub (lo' := [(0, .ref w.mm), (1, .int ((g_X4_failing c (k + 1)).1)), (2, .long ((g_X4_failing c (k + 1)).2.1)), (4, .long ((g_X4_failing c (k + 1)).2.2)), (6, .int (nI (k + 1)))]) (List.forall_mem_cons.mpr ⟨rfl, List.forall_mem_cons.mpr ⟨congrArg (fun z => some (Value.int z)) (Eq.symm (by rw [g_X4_failing_s, if_pos c_20, if_pos c_30, if_pos c_41, if_neg c_52, if_pos c_69, if_neg c_79, if_neg c_90])), List.forall_mem_cons.mpr ⟨congrArg (fun z => some (Value.long z)) (Eq.symm (by rw [g_X4_failing_s, if_pos c_20, if_pos c_30, if_pos c_41, if_neg c_52, if_pos c_69, if_neg c_79, if_neg c_90])), List.forall_mem_cons.mpr ⟨congrArg (fun z => some (Value.long z)) (Eq.symm (by rw [g_X4_failing_s, if_pos c_20, if_pos c_30, if_pos c_41, if_neg c_52, if_pos c_69, if_neg c_79, if_neg c_90])), List.forall_mem_cons.mpr ⟨congrArg (fun z => some (Value.int z)) (nI_1 k), fun _ h => absurd h List.not_mem_nil⟩⟩⟩⟩⟩) (Nat.zero_le _) (Nat.zero_le _) (ih (k + 1) (by omega))
                  · skip
                    refine s_aloadn dX4_failing_93 rfl rfl ?_
                    refine s_getR (n := 76) dX4_failing_94 rfl hW.mm (fun _ _ _ => rfl) (hW.rr 15 (by decide)).1 ?_
                    refine s_iload dX4_failing_97 rfl ?_
                    refine s_zald' (j := k) dX4_failing_99 ((hW.rr 15 (by decide)).2.1) rfl (by rw [(hW.rr 15 (by decide)).2.2]; exact (Nat.lt_of_lt_of_le hlt hn)) (by rw [(hW.rr 15 (by decide)).2.2]; decide) ?_
                    rw [hW.ai 15 (by decide)]
                    refine s_ifne (tgt := 142) dX4_failing_100 (by decide) (fun c_100 => ?_) (fun c_100 => ?_)
                    · skip
                      refine s_iinc (v := (nI k) + 1) dX4_failing_142 rfl (by rfl) (by decide) ?_
                      refine s_goto (tgt := 10) dX4_failing_145 (by decide) ?_
                      exact s_sub (lo' := [(0, .ref w.mm), (1, .int ((g_X4_failing c (k + 1)).1)), (2, .long ((g_X4_failing c (k + 1)).2.1)), (4, .long ((g_X4_failing c (k + 1)).2.2)), (6, .int (nI (k + 1)))]) (List.forall_mem_cons.mpr ⟨rfl, List.forall_mem_cons.mpr ⟨congrArg (fun z => some (Value.int z)) (Eq.symm (by rw [g_X4_failing_s, if_pos c_20, if_pos c_30, if_pos c_41, if_neg c_52, if_pos c_69, if_neg c_79, if_pos c_90, if_neg c_100])), List.forall_mem_cons.mpr ⟨congrArg (fun z => some (Value.long z)) (Eq.symm (by rw [g_X4_failing_s, if_pos c_20, if_pos c_30, if_pos c_41, if_neg c_52, if_pos c_69, if_neg c_79, if_pos c_90, if_neg c_100])), List.forall_mem_cons.mpr ⟨congrArg (fun z => some (Value.long z)) (Eq.symm (by rw [g_X4_failing_s, if_pos c_20, if_pos c_30, if_pos c_41, if_neg c_52, if_pos c_69, if_neg c_79, if_pos c_90, if_neg c_100])), List.forall_mem_cons.mpr ⟨congrArg (fun z => some (Value.int z)) (nI_1 k), fun _ h => absurd h List.not_mem_nil⟩⟩⟩⟩⟩) (Nat.zero_le _) (Nat.zero_le _) (ih (k + 1) (by omega))
                    · skip
                      refine s_lloadn dX4_failing_103 rfl rfl ?_
                      refine s_aloadn dX4_failing_104 rfl rfl ?_
                      refine s_iload dX4_failing_105 rfl ?_
                      refine s_cv1R (n := 52) dX4_failing_107 rfl (kv hW.mm (by decide) rfl) rfl (by decide) (by decide) (by decide) (by decide) (Nat.le_of_ble_eq_true rfl) (m_X4_owed hW (Nat.lt_of_lt_of_le hlt hn)) ?_
                      refine s_ladd dX4_failing_110 ?_
                      refine s_lstoren dX4_failing_111 rfl (by decide) ?_
                      refine s_lload dX4_failing_112 rfl ?_
                      refine s_aloadn dX4_failing_114 rfl rfl ?_
                      refine s_getR (n := 98) dX4_failing_115 rfl hW.mm (fun _ _ _ => rfl) (hW.rr 37 (by decide)).1 ?_
                      refine s_aloadn dX4_failing_118 rfl rfl ?_
                      refine s_getR (n := 70) dX4_failing_119 rfl hW.mm (fun _ _ _ => rfl) (hW.rr 9 (by decide)).1 ?_
                      refine s_iload dX4_failing_122 rfl ?_
                      refine s_iald' (j := k) dX4_failing_124 ((hW.rr 9 (by decide)).2.1) rfl (by rw [(hW.rr 9 (by decide)).2.2]; exact (Nat.lt_of_lt_of_le hlt hn)) (by rw [(hW.rr 9 (by decide)).2.2]; decide) ?_
                      rw [hW.ai 9 (by decide)]
                      refine s_zald' (j := (ix (c.ai 9 k))) dX4_failing_125 ((hW.rr 37 (by decide)).2.1) (ix_nI (hL k hlt).1).symm (by rw [(hW.rr 37 (by decide)).2.2]; exact (ix_of (hL k hlt).1 (hL k hlt).2 (by decide))) (by rw [(hW.rr 37 (by decide)).2.2]; decide) ?_
                      rw [hW.ai 37 (by decide)]
                      refine s_ifeq (tgt := 138) dX4_failing_126 (by decide) (fun c_126 => ?_) (fun c_126 => ?_)
                      · skip
                        refine s_lconst (v := 0) dX4_failing_138 (by decide) ?_
                        refine s_ladd dX4_failing_139 ?_
                        refine s_lstore dX4_failing_140 (by decide) ?_
                        refine s_iinc (v := (nI k) + 1) dX4_failing_142 rfl (by rfl) (by decide) ?_
                        refine s_goto (tgt := 10) dX4_failing_145 (by decide) ?_
                        exact s_sub (lo' := [(0, .ref w.mm), (1, .int ((g_X4_failing c (k + 1)).1)), (2, .long ((g_X4_failing c (k + 1)).2.1)), (4, .long ((g_X4_failing c (k + 1)).2.2)), (6, .int (nI (k + 1)))]) (List.forall_mem_cons.mpr ⟨rfl, List.forall_mem_cons.mpr ⟨congrArg (fun z => some (Value.int z)) (Eq.symm (by rw [g_X4_failing_s, if_pos c_20, if_pos c_30, if_pos c_41, if_neg c_52, if_pos c_69, if_neg c_79, if_pos c_90, if_pos c_100, if_pos c_126])), List.forall_mem_cons.mpr ⟨congrArg (fun z => some (Value.long z)) (Eq.symm (by rw [g_X4_failing_s, if_pos c_20, if_pos c_30, if_pos c_41, if_neg c_52, if_pos c_69, if_neg c_79, if_pos c_90, if_pos c_100, if_pos c_126])), List.forall_mem_cons.mpr ⟨congrArg (fun z => some (Value.long z)) (Eq.symm (by rw [g_X4_failing_s, if_pos c_20, if_pos c_30, if_pos c_41, if_neg c_52, if_pos c_69, if_neg c_79, if_pos c_90, if_pos c_100, if_pos c_126])), List.forall_mem_cons.mpr ⟨congrArg (fun z => some (Value.int z)) (nI_1 k), fun _ h => absurd h List.not_mem_nil⟩⟩⟩⟩⟩) (Nat.zero_le _) (Nat.zero_le _) (ih (k + 1) (by omega))
                      · skip
                        refine s_aloadn dX4_failing_129 rfl rfl ?_
                        refine s_iload dX4_failing_130 rfl ?_
                        refine s_cv1R (n := 52) dX4_failing_132 rfl (kv hW.mm (by decide) rfl) rfl (by decide) (by decide) (by decide) (by decide) (Nat.le_of_ble_eq_true rfl) (m_X4_owed hW (Nat.lt_of_lt_of_le hlt hn)) ?_
                        refine s_goto (tgt := 139) dX4_failing_135 (by decide) ?_
                        refine s_ladd dX4_failing_139 ?_
                        refine s_lstore dX4_failing_140 (by decide) ?_
                        refine s_iinc (v := (nI k) + 1) dX4_failing_142 rfl (by rfl) (by decide) ?_
                        refine s_goto (tgt := 10) dX4_failing_145 (by decide) ?_
                        exact s_sub (lo' := [(0, .ref w.mm), (1, .int ((g_X4_failing c (k + 1)).1)), (2, .long ((g_X4_failing c (k + 1)).2.1)), (4, .long ((g_X4_failing c (k + 1)).2.2)), (6, .int (nI (k + 1)))]) (List.forall_mem_cons.mpr ⟨rfl, List.forall_mem_cons.mpr ⟨congrArg (fun z => some (Value.int z)) (Eq.symm (by rw [g_X4_failing_s, if_pos c_20, if_pos c_30, if_pos c_41, if_neg c_52, if_pos c_69, if_neg c_79, if_pos c_90, if_pos c_100, if_neg c_126])), List.forall_mem_cons.mpr ⟨congrArg (fun z => some (Value.long z)) (Eq.symm (by rw [g_X4_failing_s, if_pos c_20, if_pos c_30, if_pos c_41, if_neg c_52, if_pos c_69, if_neg c_79, if_pos c_90, if_pos c_100, if_neg c_126])), List.forall_mem_cons.mpr ⟨congrArg (fun z => some (Value.long z)) (Eq.symm (by rw [g_X4_failing_s, if_pos c_20, if_pos c_30, if_pos c_41, if_neg c_52, if_pos c_69, if_neg c_79, if_pos c_90, if_pos c_100, if_neg c_126])), List.forall_mem_cons.mpr ⟨congrArg (fun z => some (Value.int z)) (nI_1 k), fun _ h => absurd h List.not_mem_nil⟩⟩⟩⟩⟩) (Nat.zero_le _) (Nat.zero_le _) (ih (k + 1) (by omega))
  exact s_sub (lo' := [(0, .ref w.mm), (1, .int ((g_X4_failing c 0).1)), (2, .long ((g_X4_failing c 0).2.1)), (4, .long ((g_X4_failing c 0).2.2)), (6, .int (nI 0))]) (List.forall_mem_cons.mpr ⟨rfl, List.forall_mem_cons.mpr ⟨rfl, List.forall_mem_cons.mpr ⟨rfl, List.forall_mem_cons.mpr ⟨rfl, List.forall_mem_cons.mpr ⟨rfl, fun _ h => absurd h List.not_mem_nil⟩⟩⟩⟩⟩) (Nat.zero_le _) (Nat.zero_le _) (LP_10 n 0 (by omega))