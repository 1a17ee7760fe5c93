/-! THE PROGRAM, 5: loops over the claims that change nothing -/
def g_X3_debt (c : CC) : Nat → Int64
  | 0 => 0
  | k + 1 => if (i_X0_isOpen c k) = 0 then (g_X3_debt c k) + 0 else (if (c.ci k 4) = 0 then (if (i_X0_isOfState c k) = 0 then (g_X3_debt c k) + (i_X0_owed c k) else (g_X3_debt c k) + 0) else (g_X3_debt c k) + 0)
theorem g_X3_debt_s {c : CC} {k : Nat} : g_X3_debt c (k + 1) = (if (i_X0_isOpen c k) = 0 then (g_X3_debt c k) + 0 else (if (c.ci k 4) = 0 then (if (i_X0_isOfState c k) = 0 then (g_X3_debt c k) + (i_X0_owed c k) else (g_X3_debt c k) + 0) else (g_X3_debt c k) + 0) : Int64) := rfl
def f_X3_debt (n : Nat) (c : CC) : Int64 := (g_X3_debt c n)
set_option maxHeartbeats 4000000 in
theorem m_X3_debt {tm : Nat × Nat} {S : Sto} {w : CAd} {c : CC}  (hW : CW tm S w c)  : Ev tm M_X3_debt [.ref w.th] S (Rt (some (.long (f_X3_debt w.n c))) S) := by
  have hF : FrC S S := FrC.rf
  refine ev_in ok_X3_debt (Nat.le_of_ble_eq_true rfl) ?_
  have hn40 := hW.n40
  refine s_lconst (v := 0) dX3_debt_0 (by decide) ?_
  refine s_lstoren dX3_debt_1 rfl (by decide) ?_
  refine s_iconst (v := 0) dX3_debt_2 (by decide) ?_
  refine s_istoren dX3_debt_3 rfl (by decide) ?_
  have LP_4 : ∀ (d k : Nat), k + d = w.n → Wp (Ev tm) tm M_X3_debt (Rt (some (.long (f_X3_debt w.n c))) S) 4 [(0, .ref w.th), (1, .long (g_X3_debt c k)), (3, .int (nI k))] [] 0 0 S := by
    intro d
    induction d with
    | zero =>
      intro k hkd
      have hkn : k = w.n := by omega
      subst hkn
      refine s_iloadn dX3_debt_4 rfl rfl ?_
      refine s_aloadn dX3_debt_5 rfl rfl ?_
      refine s_getR (n := 4) dX3_debt_6 rfl hW.th (fun _ _ _ => rfl) hW.ral ?_
      refine s_cv0R (n := 3) dX3_debt_9 rfl (kv hW.alK (by decide) rfl) rfl (by decide) (by decide) (by decide) (by decide) (Nat.le_of_ble_eq_true rfl) (m_size hW.lc) ?_
      refine s_icge (tgt := 82) dX3_debt_12 (by decide) (fun _ => ?_) (fun c => absurd (Int32.le_refl _) c)
      refine s_lloadn dX3_debt_82 rfl rfl ?_
      exact s_retl dX3_debt_83 rfl ⟨congrArg (fun z => Sum.inl (some (Value.long z))) (Eq.symm (by unfold f_X3_debt; rfl)), rfl⟩
    | succ d ih =>
      intro k hkd
      have hlt : k < w.n := by omega
      refine s_iloadn dX3_debt_4 rfl rfl ?_
      refine s_aloadn dX3_debt_5 rfl rfl ?_
      refine s_getR (n := 4) dX3_debt_6 rfl hW.th (fun _ _ _ => rfl) hW.ral ?_
      refine s_cv0R (n := 3) dX3_debt_9 rfl (kv hW.alK (by decide) rfl) rfl (by decide) (by decide) (by decide) (by decide) (Nat.le_of_ble_eq_true rfl) (m_size hW.lc) ?_
      refine s_icge (tgt := 82) dX3_debt_12 (by decide) (fun c => absurd c (nI_ge hlt (by omega))) (fun _ => ?_)
      refine s_aloadn dX3_debt_15 rfl rfl ?_
      refine s_getR (n := 4) dX3_debt_16 rfl hW.th (fun _ _ _ => rfl) hW.ral ?_
      refine s_iloadn dX3_debt_19 rfl rfl ?_
      refine s_cv1R (n := 11) dX3_debt_20 rfl (kv hW.alK (by decide) rfl) rfl (by decide) (by decide) (by decide) (by decide) (Nat.le_of_ble_eq_true rfl) (m_get hW.lc hlt) ?_
      refine s_cast (n := 2) dX3_debt_23 rfl (hW.cK _ (Nat.lt_of_lt_of_le hlt hW.nm)) ?_
      refine s_astore dX3_debt_26 (by decide) ?_
      refine s_aload dX3_debt_28 rfl ?_
      refine s_cv0R (n := 13) dX3_debt_30 rfl (kv (hW.cK _ (Nat.lt_of_lt_of_le hlt hW.nm)) (by decide) rfl) rfl (by decide) (by decide) (by decide) (by decide) (Nat.le_of_ble_eq_true rfl) (mi_X0_isOpen hW (Nat.lt_of_lt_of_le hlt hW.nm)) ?_
      refine s_ifeq (tgt := 56) dX3_debt_33 (by decide) (fun c_33 => ?_) (fun c_33 => ?_)
      · skip
        refine s_iconst (v := 0) dX3_debt_56 (by decide) ?_
        refine s_istore dX3_debt_57 (by decide) ?_
        refine s_lloadn dX3_debt_59 rfl rfl ?_
        refine s_iload dX3_debt_60 rfl ?_
        refine s_ifeq (tgt := 73) dX3_debt_62 (by decide) (fun _ => ?_) (fun c => absurd c (by decide))
        refine s_lconst (v := 0) dX3_debt_73 (by decide) ?_
        refine s_ladd dX3_debt_74 ?_
        refine s_lstoren dX3_debt_75 rfl (by decide) ?_
        refine s_iinc (v := (nI k) + 1) dX3_debt_76 rfl (by rfl) (by decide) ?_
        refine s_goto (tgt := 4) dX3_debt_79 (by decide) ?_
        exact s_sub (lo' := [(0, .ref w.th), (1, .long (g_X3_debt c (k + 1))), (3, .int (nI (k + 1)))]) (List.forall_mem_cons.mpr ⟨rfl, List.forall_mem_cons.mpr ⟨congrArg (fun z => some (Value.long z)) (Eq.symm (by rw [g_X3_debt_s, if_pos c_33])), List.forall_mem_cons.mpr ⟨congrArg (fun z => some (Value.int z)) (nI_1 k), fun _ h => absurd h List.not_mem_nil⟩⟩⟩) (Nat.zero_le _) (Nat.zero_le _) (ih (k + 1) (by omega))
      · skip
        refine s_aload dX3_debt_36 rfl ?_
        refine s_get (v := .int (c.ci k 4)) (n := 27) dX3_debt_38 rfl (hW.cK _ (Nat.lt_of_lt_of_le hlt hW.nm)) (congrArg Value.int (congrFun (hW.ci _ (Nat.lt_of_lt_of_le hlt hW.nm)) 4)) ?_
        refine s_ifne (tgt := 56) dX3_debt_41 (by decide) (fun c_41 => ?_) (fun c_41 => ?_)
        · skip
          refine s_iconst (v := 0) dX3_debt_56 (by decide) ?_
          refine s_istore dX3_debt_57 (by decide) ?_
          refine s_lloadn dX3_debt_59 rfl rfl ?_
          refine s_iload dX3_debt_60 rfl ?_
          refine s_ifeq (tgt := 73) dX3_debt_62 (by decide) (fun _ => ?_) (fun c => absurd c (by decide))
          refine s_lconst (v := 0) dX3_debt_73 (by decide) ?_
          refine s_ladd dX3_debt_74 ?_
          refine s_lstoren dX3_debt_75 rfl (by decide) ?_
          refine s_iinc (v := (nI k) + 1) dX3_debt_76 rfl (by rfl) (by decide) ?_
          refine s_goto (tgt := 4) dX3_debt_79 (by decide) ?_
          exact s_sub (lo' := [(0, .ref w.th), (1, .long (g_X3_debt c (k + 1))), (3, .int (nI (k + 1)))]) (List.forall_mem_cons.mpr ⟨rfl, List.forall_mem_cons.mpr ⟨congrArg (fun z => some (Value.long z)) (Eq.symm (by rw [g_X3_debt_s, if_neg c_33, if_neg c_41])), List.forall_mem_cons.mpr ⟨congrArg (fun z => some (Value.int z)) (nI_1 k), fun _ h => absurd h List.not_mem_nil⟩⟩⟩) (Nat.zero_le _) (Nat.zero_le _) (ih (k + 1) (by omega))
        · skip
          refine s_aload dX3_debt_44 rfl ?_
          refine s_cv0R (n := 14) dX3_debt_46 rfl (kv (hW.cK _ (Nat.lt_of_lt_of_le hlt hW.nm)) (by decide) rfl) rfl (by decide) (by decide) (by decide) (by decide) (Nat.le_of_ble_eq_true rfl) (mi_X0_isOfState hW (Nat.lt_of_lt_of_le hlt hW.nm)) ?_
          refine s_ifne (tgt := 56) dX3_debt_49 (by decide) (fun c_49 => ?_) (fun c_49 => ?_)
          · skip
            refine s_iconst (v := 0) dX3_debt_56 (by decide) ?_
            refine s_istore dX3_debt_57 (by decide) ?_
            refine s_lloadn dX3_debt_59 rfl rfl ?_
            refine s_iload dX3_debt_60 rfl ?_
            refine s_ifeq (tgt := 73) dX3_debt_62 (by decide) (fun _ => ?_) (fun c => absurd c (by decide))
            refine s_lconst (v := 0) dX3_debt_73 (by decide) ?_
            refine s_ladd dX3_debt_74 ?_
            refine s_lstoren dX3_debt_75 rfl (by decide) ?_
            refine s_iinc (v := (nI k) + 1) dX3_debt_76 rfl (by rfl) (by decide) ?_
            refine s_goto (tgt := 4) dX3_debt_79 (by decide) ?_
            exact s_sub (lo' := [(0, .ref w.th), (1, .long (g_X3_debt c (k + 1))), (3, .int (nI (k + 1)))]) (List.forall_mem_cons.mpr ⟨rfl, List.forall_mem_cons.mpr ⟨congrArg (fun z => some (Value.long z)) (Eq.symm (by rw [g_X3_debt_s, if_neg c_33, if_pos c_41, if_neg c_49])), List.forall_mem_cons.mpr ⟨congrArg (fun z => some (Value.int z)) (nI_1 k), fun _ h => absurd h List.not_mem_nil⟩⟩⟩) (Nat.zero_le _) (Nat.zero_le _) (ih (k + 1) (by omega))
          · skip
            refine s_iconst (v := 1) dX3_debt_52 (by decide) ?_
            refine s_goto (tgt := 57) dX3_debt_53 (by decide) ?_
            refine s_istore dX3_debt_57 (by decide) ?_
            refine s_lloadn dX3_debt_59 rfl rfl ?_
            refine s_iload dX3_debt_60 rfl ?_
            refine s_ifeq (tgt := 73) dX3_debt_62 (by decide) (fun c => absurd c (by decide)) (fun _ => ?_)
            refine s_aload dX3_debt_65 rfl ?_
            refine s_cv0R (n := 15) dX3_debt_67 rfl (kv (hW.cK _ (Nat.lt_of_lt_of_le hlt hW.nm)) (by decide) rfl) rfl (by decide) (by decide) (by decide) (by decide) (Nat.le_of_ble_eq_true rfl) (mi_X0_owed hW (Nat.lt_of_lt_of_le hlt hW.nm)) ?_
            refine s_goto (tgt := 74) dX3_debt_70 (by decide) ?_
            refine s_ladd dX3_debt_74 ?_
            refine s_lstoren dX3_debt_75 rfl (by decide) ?_
            refine s_iinc (v := (nI k) + 1) dX3_debt_76 rfl (by rfl) (by decide) ?_
            refine s_goto (tgt := 4) dX3_debt_79 (by decide) ?_
            exact s_sub (lo' := [(0, .ref w.th), (1, .long (g_X3_debt c (k + 1))), (3, .int (nI (k + 1)))]) (List.forall_mem_cons.mpr ⟨rfl, List.forall_mem_cons.mpr ⟨congrArg (fun z => some (Value.long z)) (Eq.symm (by rw [g_X3_debt_s, if_neg c_33, if_pos c_41, if_pos c_49])), List.forall_mem_cons.mpr ⟨congrArg (fun z => some (Value.int z)) (nI_1 k), fun _ h => absurd h List.not_mem_nil⟩⟩⟩) (Nat.zero_le _) (Nat.zero_le _) (ih (k + 1) (by omega))
  exact s_sub (lo' := [(0, .ref w.th), (1, .long (g_X3_debt c 0)), (3, .int (nI 0))]) (List.forall_mem_cons.mpr ⟨rfl, List.forall_mem_cons.mpr ⟨rfl, List.forall_mem_cons.mpr ⟨rfl, fun _ h => absurd h List.not_mem_nil⟩⟩⟩) (Nat.zero_le _) (Nat.zero_le _) (LP_4 w.n 0 (by omega))
def g_X3_hasFundArrears (c : CC) : Nat → Int32
  | 0 => 0
  | k + 1 => if (g_X3_hasFundArrears c k) = 0 then (if (c.ci k 0) = 4 then (if (i_X0_isOpen c k) = 0 then 0 else (if (c.cj k 9) ≤ 0 then 0 else 1)) else 0) else 1
theorem g_X3_hasFundArrears_s {c : CC} {k : Nat} : g_X3_hasFundArrears c (k + 1) = (if (g_X3_hasFundArrears c k) = 0 then (if (c.ci k 0) = 4 then (if (i_X0_isOpen c k) = 0 then 0 else (if (c.cj k 9) ≤ 0 then 0 else 1)) else 0) else 1 : Int32) := rfl
theorem b_g_X3_hasFundArrears {c : CC} {k : Nat} : g_X3_hasFundArrears c k = 0 ∨ g_X3_hasFundArrears c k = 1 := by
  induction k with
  | zero => exact Or.inl rfl
  | succ k ih =>
    rw [g_X3_hasFundArrears_s]
    repeat' split
    all_goals first | exact Or.inl rfl | exact Or.inr rfl | exact ih
def f_X3_hasFundArrears (n : Nat) (c : CC) : Int32 := (g_X3_hasFundArrears c n)
theorem b_X3_hasFundArrears {n : Nat} {c : CC} : f_X3_hasFundArrears n c = 0 ∨ f_X3_hasFundArrears n c = 1 := by
  unfold f_X3_hasFundArrears
  repeat' split
  all_goals first | exact b_g_X3_hasFundArrears | exact Or.inl rfl | exact Or.inr rfl | exact Or.inl ‹_›
set_option maxHeartbeats 4000000 in
theorem m_X3_hasFundArrears {tm : Nat × Nat} {S : Sto} {w : CAd} {c : CC}  (hW : CW tm S w c)  : Ev tm M_X3_hasFundArrears [.ref w.th] S (Rt (some (.int (f_X3_hasFundArrears w.n c))) S) := by
  have hF : FrC S S := FrC.rf
  refine ev_in ok_X3_hasFundArrears (Nat.le_of_ble_eq_true rfl) ?_
  have hn40 := hW.n40
  refine s_iconst (v := 0) dX3_hasFundArrears_0 (by decide) ?_
  refine s_istoren dX3_hasFundArrears_1 rfl (by decide) ?_
  refine s_iconst (v := 0) dX3_hasFundArrears_2 (by decide) ?_
  refine s_istoren dX3_hasFundArrears_3 rfl (by decide) ?_
  have LP_4 : ∀ (d k : Nat), k + d = w.n → Wp (Ev tm) tm M_X3_hasFundArrears (Rt (some (.int (f_X3_hasFundArrears w.n c))) S) 4 [(0, .ref w.th), (1, .int (g_X3_hasFundArrears c k)), (2, .int (nI k))] [] 0 0 S := by
    intro d
    induction d with
    | zero =>
      intro k hkd
      have hkn : k = w.n := by omega
      subst hkn
      refine s_iloadn dX3_hasFundArrears_4 rfl rfl ?_
      refine s_aloadn dX3_hasFundArrears_5 rfl rfl ?_
      refine s_getR (n := 4) dX3_hasFundArrears_6 rfl hW.th (fun _ _ _ => rfl) hW.ral ?_
      refine s_cv0R (n := 3) dX3_hasFundArrears_9 rfl (kv hW.alK (by decide) rfl) rfl (by decide) (by decide) (by decide) (by decide) (Nat.le_of_ble_eq_true rfl) (m_size hW.lc) ?_
      refine s_icge (tgt := 67) dX3_hasFundArrears_12 (by decide) (fun _ => ?_) (fun c => absurd (Int32.le_refl _) c)
      refine s_iloadn dX3_hasFundArrears_67 rfl rfl ?_
      exact s_reti dX3_hasFundArrears_68 rfl (nr_bool b_g_X3_hasFundArrears) ⟨congrArg (fun z => Sum.inl (some (Value.int z))) (Eq.symm (by unfold f_X3_hasFundArrears; rfl)), rfl⟩
    | succ d ih =>
      intro k hkd
      have hlt : k < w.n := by omega
      refine s_iloadn dX3_hasFundArrears_4 rfl rfl ?_
      refine s_aloadn dX3_hasFundArrears_5 rfl rfl ?_
      refine s_getR (n := 4) dX3_hasFundArrears_6 rfl hW.th (fun _ _ _ => rfl) hW.ral ?_
      refine s_cv0R (n := 3) dX3_hasFundArrears_9 rfl (kv hW.alK (by decide) rfl) rfl (by decide) (by decide) (by decide) (by decide) (Nat.le_of_ble_eq_true rfl) (m_size hW.lc) ?_
      refine s_icge (tgt := 67) dX3_hasFundArrears_12 (by decide) (fun c => absurd c (nI_ge hlt (by omega))) (fun _ => ?_)
      refine s_aloadn dX3_hasFundArrears_15 rfl rfl ?_
      refine s_getR (n := 4) dX3_hasFundArrears_16 rfl hW.th (fun _ _ _ => rfl) hW.ral ?_
      refine s_iloadn dX3_hasFundArrears_19 rfl rfl ?_
      refine s_cv1R (n := 11) dX3_hasFundArrears_20 rfl (kv hW.alK (by decide) rfl) rfl (by decide) (by decide) (by decide) (by decide) (Nat.le_of_ble_eq_true rfl) (m_get hW.lc hlt) ?_
      refine s_cast (n := 2) dX3_hasFundArrears_23 rfl (hW.cK _ (Nat.lt_of_lt_of_le hlt hW.nm)) ?_
      refine s_astoren dX3_hasFundArrears_26 rfl (by decide) ?_
      refine s_iloadn dX3_hasFundArrears_27 rfl rfl ?_
      refine s_ifne (tgt := 55) dX3_hasFundArrears_28 (by decide) (fun c_28 => ?_) (fun c_28 => ?_)
      · skip
        refine s_iconst (v := 1) dX3_hasFundArrears_55 (by decide) ?_
        refine s_goto (tgt := 60) dX3_hasFundArrears_56 (by decide) ?_
        refine s_istoren dX3_hasFundArrears_60 rfl (by decide) ?_
        refine s_iinc (v := (nI k) + 1) dX3_hasFundArrears_61 rfl (by rfl) (by decide) ?_
        refine s_goto (tgt := 4) dX3_hasFundArrears_64 (by decide) ?_
        exact s_sub (lo' := [(0, .ref w.th), (1, .int (g_X3_hasFundArrears c (k + 1))), (2, .int (nI (k + 1)))]) (List.forall_mem_cons.mpr ⟨rfl, List.forall_mem_cons.mpr ⟨congrArg (fun z => some (Value.int z)) (Eq.symm (by rw [g_X3_hasFundArrears_s, if_neg c_28])), List.forall_mem_cons.mpr ⟨congrArg (fun z => some (Value.int z)) (nI_1 k), fun _ h => absurd h List.not_mem_nil⟩⟩⟩) (Nat.zero_le _) (Nat.zero_le _) (ih (k + 1) (by omega))
      · skip
        refine s_aloadn dX3_hasFundArrears_31 rfl rfl ?_
        refine s_get (v := .int (c.ci k 0)) (n := 19) dX3_hasFundArrears_32 rfl (hW.cK _ (Nat.lt_of_lt_of_le hlt hW.nm)) (congrArg Value.int (congrFun (hW.ci _ (Nat.lt_of_lt_of_le hlt hW.nm)) 0)) ?_
        refine s_iconst (v := 4) dX3_hasFundArrears_35 (by decide) ?_
        refine s_icne (tgt := 59) dX3_hasFundArrears_36 (by decide) (fun c_36 => ?_) (fun c_36 => ?_)
        · skip
          refine s_iconst (v := 0) dX3_hasFundArrears_59 (by decide) ?_
          refine s_istoren dX3_hasFundArrears_60 rfl (by decide) ?_
          refine s_iinc (v := (nI k) + 1) dX3_hasFundArrears_61 rfl (by rfl) (by decide) ?_
          refine s_goto (tgt := 4) dX3_hasFundArrears_64 (by decide) ?_
          exact s_sub (lo' := [(0, .ref w.th), (1, .int (g_X3_hasFundArrears c (k + 1))), (2, .int (nI (k + 1)))]) (List.forall_mem_cons.mpr ⟨rfl, List.forall_mem_cons.mpr ⟨congrArg (fun z => some (Value.int z)) (Eq.symm (by rw [g_X3_hasFundArrears_s, if_pos c_28, if_neg c_36])), List.forall_mem_cons.mpr ⟨congrArg (fun z => some (Value.int z)) (nI_1 k), fun _ h => absurd h List.not_mem_nil⟩⟩⟩) (Nat.zero_le _) (Nat.zero_le _) (ih (k + 1) (by omega))
        · skip
          refine s_aloadn dX3_hasFundArrears_39 rfl rfl ?_
          refine s_cv0R (n := 13) dX3_hasFundArrears_40 rfl (kv (hW.cK _ (Nat.lt_of_lt_of_le hlt hW.nm)) (by decide) rfl) rfl (by decide) (by decide) (by decide) (by decide) (Nat.le_of_ble_eq_true rfl) (mi_X0_isOpen hW (Nat.lt_of_lt_of_le hlt hW.nm)) ?_
          refine s_ifeq (tgt := 59) dX3_hasFundArrears_43 (by decide) (fun c_43 => ?_) (fun c_43 => ?_)
          · skip
            refine s_iconst (v := 0) dX3_hasFundArrears_59 (by decide) ?_
            refine s_istoren dX3_hasFundArrears_60 rfl (by decide) ?_
            refine s_iinc (v := (nI k) + 1) dX3_hasFundArrears_61 rfl (by rfl) (by decide) ?_
            refine s_goto (tgt := 4) dX3_hasFundArrears_64 (by decide) ?_
            exact s_sub (lo' := [(0, .ref w.th), (1, .int (g_X3_hasFundArrears c (k + 1))), (2, .int (nI (k + 1)))]) (List.forall_mem_cons.mpr ⟨rfl, List.forall_mem_cons.mpr ⟨congrArg (fun z => some (Value.int z)) (Eq.symm (by rw [g_X3_hasFundArrears_s, if_pos c_28, if_pos c_36, if_pos c_43])), List.forall_mem_cons.mpr ⟨congrArg (fun z => some (Value.int z)) (nI_1 k), fun _ h => absurd h List.not_mem_nil⟩⟩⟩) (Nat.zero_le _) (Nat.zero_le _) (ih (k + 1) (by omega))
          · skip
            refine s_aloadn dX3_hasFundArrears_46 rfl rfl ?_
            refine s_get (v := .long (c.cj k 9)) (n := 36) dX3_hasFundArrears_47 rfl (hW.cK _ (Nat.lt_of_lt_of_le hlt hW.nm)) (congrArg Value.long (congrFun (hW.cj _ (Nat.lt_of_lt_of_le hlt hW.nm)) 9)) ?_
            refine s_lconst (v := 0) dX3_hasFundArrears_50 (by decide) ?_
            refine s_lcle (tgt := 59) dX3_hasFundArrears_51 dX3_hasFundArrears_52 (by decide) (fun c_51 => ?_) (fun c_51 => ?_)
            · skip
              refine s_iconst (v := 0) dX3_hasFundArrears_59 (by decide) ?_
              refine s_istoren dX3_hasFundArrears_60 rfl (by decide) ?_
              refine s_iinc (v := (nI k) + 1) dX3_hasFundArrears_61 rfl (by rfl) (by decide) ?_
              refine s_goto (tgt := 4) dX3_hasFundArrears_64 (by decide) ?_
              exact s_sub (lo' := [(0, .ref w.th), (1, .int (g_X3_hasFundArrears c (k + 1))), (2, .int (nI (k + 1)))]) (List.forall_mem_cons.mpr ⟨rfl, List.forall_mem_cons.mpr ⟨congrArg (fun z => some (Value.int z)) (Eq.symm (by rw [g_X3_hasFundArrears_s, if_pos c_28, if_pos c_36, if_neg c_43, if_pos c_51])), List.forall_mem_cons.mpr ⟨congrArg (fun z => some (Value.int z)) (nI_1 k), fun _ h => absurd h List.not_mem_nil⟩⟩⟩) (Nat.zero_le _) (Nat.zero_le _) (ih (k + 1) (by omega))
            · skip
              refine s_iconst (v := 1) dX3_hasFundArrears_55 (by decide) ?_
              refine s_goto (tgt := 60) dX3_hasFundArrears_56 (by decide) ?_
              refine s_istoren dX3_hasFundArrears_60 rfl (by decide) ?_
              refine s_iinc (v := (nI k) + 1) dX3_hasFundArrears_61 rfl (by rfl) (by decide) ?_
              refine s_goto (tgt := 4) dX3_hasFundArrears_64 (by decide) ?_
              exact s_sub (lo' := [(0, .ref w.th), (1, .int (g_X3_hasFundArrears c (k + 1))), (2, .int (nI (k + 1)))]) (List.forall_mem_cons.mpr ⟨rfl, List.forall_mem_cons.mpr ⟨congrArg (fun z => some (Value.int z)) (Eq.symm (by rw [g_X3_hasFundArrears_s, if_pos c_28, if_pos c_36, if_neg c_43, if_neg c_51])), List.forall_mem_cons.mpr ⟨congrArg (fun z => some (Value.int z)) (nI_1 k), fun _ h => absurd h List.not_mem_nil⟩⟩⟩) (Nat.zero_le _) (Nat.zero_le _) (ih (k + 1) (by omega))
  exact s_sub (lo' := [(0, .ref w.th), (1, .int (g_X3_hasFundArrears c 0)), (2, .int (nI 0))]) (List.forall_mem_cons.mpr ⟨rfl, List.forall_mem_cons.mpr ⟨rfl, List.forall_mem_cons.mpr ⟨rfl, fun _ h => absurd h List.not_mem_nil⟩⟩⟩) (Nat.zero_le _) (Nat.zero_le _) (LP_4 w.n 0 (by omega))
def g_X3_owedToOfficials (c : CC) (z : Int32) : Nat → Int64
  | 0 => 0
  | k + 1 => if z = 0 then (if (i_X0_isOfficial c k) = 0 then (g_X3_owedToOfficials c z k) + 0 else (g_X3_owedToOfficials c z k) + (i_X0_owed c k)) else (if (f_X3_hasBit (((c.ti 10) : Int32).toInt64) (c.ci k 1)) = 0 then (g_X3_owedToOfficials c z k) + 0 else (if (i_X0_isOfficial c k) = 0 then (g_X3_owedToOfficials c z k) + 0 else (g_X3_owedToOfficials c z k) + (i_X0_owed c k)))
theorem g_X3_owedToOfficials_s {c : CC} {z : Int32} {k : Nat} : g_X3_owedToOfficials c z (k + 1) = (if z = 0 then (if (i_X0_isOfficial c k) = 0 then (g_X3_owedToOfficials c z k) + 0 else (g_X3_owedToOfficials c z k) + (i_X0_owed c k)) else (if (f_X3_hasBit (((c.ti 10) : Int32).toInt64) (c.ci k 1)) = 0 then (g_X3_owedToOfficials c z k) + 0 else (if (i_X0_isOfficial c k) = 0 then (g_X3_owedToOfficials c z k) + 0 else (g_X3_owedToOfficials c z k) + (i_X0_owed c k))) : Int64) := rfl
def f_X3_owedToOfficials (n : Nat) (c : CC) (z : Int32) : Int64 := (g_X3_owedToOfficials c z n)
set_option maxHeartbeats 4000000 in
theorem m_X3_owedToOfficials {tm : Nat × Nat} {S : Sto} {w : CAd} {c : CC}  {z : Int32} (hW : CW tm S w c)  : Ev tm M_X3_owedToOfficials [.ref w.th, .int z] S (Rt (some (.long (f_X3_owedToOfficials w.n c z))) S) := by
  have hF : FrC S S := FrC.rf
  refine ev_in ok_X3_owedToOfficials (Nat.le_of_ble_eq_true rfl) ?_
  have hn40 := hW.n40
  refine s_lconst (v := 0) dX3_owedToOfficials_0 (by decide) ?_
  refine s_lstoren dX3_owedToOfficials_1 rfl (by decide) ?_
  refine s_iconst (v := 0) dX3_owedToOfficials_2 (by decide) ?_
  refine s_istore dX3_owedToOfficials_3 (by decide) ?_
  have LP_5 : ∀ (d k : Nat), k + d = w.n → Wp (Ev tm) tm M_X3_owedToOfficials (Rt (some (.long (f_X3_owedToOfficials w.n c z))) S) 5 [(0, .ref w.th), (1, .int z), (2, .long (g_X3_owedToOfficials c z k)), (4, .int (nI k))] [] 0 0 S := by
    intro d
    induction d with
    | zero =>
      intro k hkd
      have hkn : k = w.n := by omega
      subst hkn
      refine s_iload dX3_owedToOfficials_5 rfl ?_
      refine s_aloadn dX3_owedToOfficials_7 rfl rfl ?_
      refine s_getR (n := 4) dX3_owedToOfficials_8 rfl hW.th (fun _ _ _ => rfl) hW.ral ?_
      refine s_cv0R (n := 3) dX3_owedToOfficials_11 rfl (kv hW.alK (by decide) rfl) rfl (by decide) (by decide) (by decide) (by decide) (Nat.le_of_ble_eq_true rfl) (m_size hW.lc) ?_
      refine s_icge (tgt := 89) dX3_owedToOfficials_14 (by decide) (fun _ => ?_) (fun c => absurd (Int32.le_refl _) c)
      refine s_lloadn dX3_owedToOfficials_89 rfl rfl ?_
      exact s_retl dX3_owedToOfficials_90 rfl ⟨congrArg (fun z => Sum.inl (some (Value.long z))) (Eq.symm (by unfold f_X3_owedToOfficials; rfl)), rfl⟩
    | succ d ih =>
      intro k hkd
      have hlt : k < w.n := by omega
      refine s_iload dX3_owedToOfficials_5 rfl ?_
      refine s_aloadn dX3_owedToOfficials_7 rfl rfl ?_
      refine s_getR (n := 4) dX3_owedToOfficials_8 rfl hW.th (fun _ _ _ => rfl) hW.ral ?_
      refine s_cv0R (n := 3) dX3_owedToOfficials_11 rfl (kv hW.alK (by decide) rfl) rfl (by decide) (by decide) (by decide) (by decide) (Nat.le_of_ble_eq_true rfl) (m_size hW.lc) ?_
      refine s_icge (tgt := 89) dX3_owedToOfficials_14 (by decide) (fun c => absurd c (nI_ge hlt (by omega))) (fun _ => ?_)
      refine s_aloadn dX3_owedToOfficials_17 rfl rfl ?_
      refine s_getR (n := 4) dX3_owedToOfficials_18 rfl hW.th (fun _ _ _ => rfl) hW.ral ?_
      refine s_iload dX3_owedToOfficials_21 rfl ?_
      refine s_cv1R (n := 11) dX3_owedToOfficials_23 rfl (kv hW.alK (by decide) rfl) rfl (by decide) (by decide) (by decide) (by decide) (Nat.le_of_ble_eq_true rfl) (m_get hW.lc hlt) ?_
      refine s_cast (n := 2) dX3_owedToOfficials_26 rfl (hW.cK _ (Nat.lt_of_lt_of_le hlt hW.nm)) ?_
      refine s_astore dX3_owedToOfficials_29 (by decide) ?_
      refine s_iloadn dX3_owedToOfficials_31 rfl rfl ?_
      refine s_ifeq (tgt := 51) dX3_owedToOfficials_32 (by decide) (fun c_32 => ?_) (fun c_32 => ?_)
      · skip
        refine s_iconst (v := 1) dX3_owedToOfficials_51 (by decide) ?_
        refine s_goto (tgt := 56) dX3_owedToOfficials_52 (by decide) ?_
        refine s_istore dX3_owedToOfficials_56 (by decide) ?_
        refine s_lloadn dX3_owedToOfficials_58 rfl rfl ?_
        refine s_iload dX3_owedToOfficials_59 rfl ?_
        refine s_ifeq (tgt := 80) dX3_owedToOfficials_61 (by decide) (fun c => absurd c (by decide)) (fun _ => ?_)
        refine s_aload dX3_owedToOfficials_64 rfl ?_
        refine s_cv0R (n := 41) dX3_owedToOfficials_66 rfl (kv (hW.cK _ (Nat.lt_of_lt_of_le hlt hW.nm)) (by decide) rfl) rfl (by decide) (by decide) (by decide) (by decide) (Nat.le_of_ble_eq_true rfl) (mi_X0_isOfficial hW (Nat.lt_of_lt_of_le hlt hW.nm)) ?_
        refine s_ifeq (tgt := 80) dX3_owedToOfficials_69 (by decide) (fun c_69 => ?_) (fun c_69 => ?_)
        · skip
          refine s_lconst (v := 0) dX3_owedToOfficials_80 (by decide) ?_
          refine s_ladd dX3_owedToOfficials_81 ?_
          refine s_lstoren dX3_owedToOfficials_82 rfl (by decide) ?_
          refine s_iinc (v := (nI k) + 1) dX3_owedToOfficials_83 rfl (by rfl) (by decide) ?_
          refine s_goto (tgt := 5) dX3_owedToOfficials_86 (by decide) ?_
          exact s_sub (lo' := [(0, .ref w.th), (1, .int z), (2, .long (g_X3_owedToOfficials c z (k + 1))), (4, .int (nI (k + 1)))]) (List.forall_mem_cons.mpr ⟨rfl, List.forall_mem_cons.mpr ⟨rfl, List.forall_mem_cons.mpr ⟨congrArg (fun z => some (Value.long z)) (Eq.symm (by rw [g_X3_owedToOfficials_s, if_pos c_32, if_pos c_69])), List.forall_mem_cons.mpr ⟨congrArg (fun z => some (Value.int z)) (nI_1 k), fun _ h => absurd h List.not_mem_nil⟩⟩⟩⟩) (Nat.zero_le _) (Nat.zero_le _) (ih (k + 1) (by omega))
        · skip
          refine s_aload dX3_owedToOfficials_72 rfl ?_
          refine s_cv0R (n := 15) dX3_owedToOfficials_74 rfl (kv (hW.cK _ (Nat.lt_of_lt_of_le hlt hW.nm)) (by decide) rfl) rfl (by decide) (by decide) (by decide) (by decide) (Nat.le_of_ble_eq_true rfl) (mi_X0_owed hW (Nat.lt_of_lt_of_le hlt hW.nm)) ?_
          refine s_goto (tgt := 81) dX3_owedToOfficials_77 (by decide) ?_
          refine s_ladd dX3_owedToOfficials_81 ?_
          refine s_lstoren dX3_owedToOfficials_82 rfl (by decide) ?_
          refine s_iinc (v := (nI k) + 1) dX3_owedToOfficials_83 rfl (by rfl) (by decide) ?_
          refine s_goto (tgt := 5) dX3_owedToOfficials_86 (by decide) ?_
          exact s_sub (lo' := [(0, .ref w.th), (1, .int z), (2, .long (g_X3_owedToOfficials c z (k + 1))), (4, .int (nI (k + 1)))]) (List.forall_mem_cons.mpr ⟨rfl, List.forall_mem_cons.mpr ⟨rfl, List.forall_mem_cons.mpr ⟨congrArg (fun z => some (Value.long z)) (Eq.symm (by rw [g_X3_owedToOfficials_s, if_pos c_32, if_neg c_69])), List.forall_mem_cons.mpr ⟨congrArg (fun z => some (Value.int z)) (nI_1 k), fun _ h => absurd h List.not_mem_nil⟩⟩⟩⟩) (Nat.zero_le _) (Nat.zero_le _) (ih (k + 1) (by omega))
      · skip
        refine s_aloadn dX3_owedToOfficials_35 rfl rfl ?_
        refine s_get (v := .int (c.ti 10)) (n := 14) dX3_owedToOfficials_36 rfl hW.th (congrArg Value.int (congrFun hW.ti 10)) ?_
        refine s_i2l dX3_owedToOfficials_39 ?_
        refine s_aload dX3_owedToOfficials_40 rfl ?_
        refine s_get (v := .int (c.ci k 1)) (n := 21) dX3_owedToOfficials_42 rfl (hW.cK _ (Nat.lt_of_lt_of_le hlt hW.nm)) (congrArg Value.int (congrFun (hW.ci _ (Nat.lt_of_lt_of_le hlt hW.nm)) 1)) ?_
        refine s_cs2R (n := 17) dX3_owedToOfficials_45 rfl rfl (by decide) (by decide) (by decide) (by decide) (Nat.le_of_ble_eq_true rfl) (m_X3_hasBit) ?_
        refine s_ifeq (tgt := 55) dX3_owedToOfficials_48 (by decide) (fun c_48 => ?_) (fun c_48 => ?_)
        · skip
          refine s_iconst (v := 0) dX3_owedToOfficials_55 (by decide) ?_
          refine s_istore dX3_owedToOfficials_56 (by decide) ?_
          refine s_lloadn dX3_owedToOfficials_58 rfl rfl ?_
          refine s_iload dX3_owedToOfficials_59 rfl ?_
          refine s_ifeq (tgt := 80) dX3_owedToOfficials_61 (by decide) (fun _ => ?_) (fun c => absurd c (by decide))
          refine s_lconst (v := 0) dX3_owedToOfficials_80 (by decide) ?_
          refine s_ladd dX3_owedToOfficials_81 ?_
          refine s_lstoren dX3_owedToOfficials_82 rfl (by decide) ?_
          refine s_iinc (v := (nI k) + 1) dX3_owedToOfficials_83 rfl (by rfl) (by decide) ?_
          refine s_goto (tgt := 5) dX3_owedToOfficials_86 (by decide) ?_
          exact s_sub (lo' := [(0, .ref w.th), (1, .int z), (2, .long (g_X3_owedToOfficials c z (k + 1))), (4, .int (nI (k + 1)))]) (List.forall_mem_cons.mpr ⟨rfl, List.forall_mem_cons.mpr ⟨rfl, List.forall_mem_cons.mpr ⟨congrArg (fun z => some (Value.long z)) (Eq.symm (by rw [g_X3_owedToOfficials_s, if_neg c_32, if_pos c_48])), List.forall_mem_cons.mpr ⟨congrArg (fun z => some (Value.int z)) (nI_1 k), fun _ h => absurd h List.not_mem_nil⟩⟩⟩⟩) (Nat.zero_le _) (Nat.zero_le _) (ih (k + 1) (by omega))
        · skip
          refine s_iconst (v := 1) dX3_owedToOfficials_51 (by decide) ?_
          refine s_goto (tgt := 56) dX3_owedToOfficials_52 (by decide) ?_
          refine s_istore dX3_owedToOfficials_56 (by decide) ?_
          refine s_lloadn dX3_owedToOfficials_58 rfl rfl ?_
          refine s_iload dX3_owedToOfficials_59 rfl ?_
          refine s_ifeq (tgt := 80) dX3_owedToOfficials_61 (by decide) (fun c => absurd c (by decide)) (fun _ => ?_)
          refine s_aload dX3_owedToOfficials_64 rfl ?_
          refine s_cv0R (n := 41) dX3_owedToOfficials_66 rfl (kv (hW.cK _ (Nat.lt_of_lt_of_le hlt hW.nm)) (by decide) rfl) rfl (by decide) (by decide) (by decide) (by decide) (Nat.le_of_ble_eq_true rfl) (mi_X0_isOfficial hW (Nat.lt_of_lt_of_le hlt hW.nm)) ?_
          refine s_ifeq (tgt := 80) dX3_owedToOfficials_69 (by decide) (fun c_69 => ?_) (fun c_69 => ?_)
          · skip
            refine s_lconst (v := 0) dX3_owedToOfficials_80 (by decide) ?_
            refine s_ladd dX3_owedToOfficials_81 ?_
            refine s_lstoren dX3_owedToOfficials_82 rfl (by decide) ?_
            refine s_iinc (v := (nI k) + 1) dX3_owedToOfficials_83 rfl (by rfl) (by decide) ?_
            refine s_goto (tgt := 5) dX3_owedToOfficials_86 (by decide) ?_
            exact s_sub (lo' := [(0, .ref w.th), (1, .int z), (2, .long (g_X3_owedToOfficials c z (k + 1))), (4, .int (nI (k + 1)))]) (List.forall_mem_cons.mpr ⟨rfl, List.forall_mem_cons.mpr ⟨rfl, List.forall_mem_cons.mpr ⟨congrArg (fun z => some (Value.long z)) (Eq.symm (by rw [g_X3_owedToOfficials_s, if_neg c_32, if_neg c_48, if_pos c_69])), List.forall_mem_cons.mpr ⟨congrArg (fun z => some (Value.int z)) (nI_1 k), fun _ h => absurd h List.not_mem_nil⟩⟩⟩⟩) (Nat.zero_le _) (Nat.zero_le _) (ih (k + 1) (by omega))
          · skip
            refine s_aload dX3_owedToOfficials_72 rfl ?_
            refine s_cv0R (n := 15) dX3_owedToOfficials_74 rfl (kv (hW.cK _ (Nat.lt_of_lt_of_le hlt hW.nm)) (by decide) rfl) rfl (by decide) (by decide) (by decide) (by decide) (Nat.le_of_ble_eq_true rfl) (mi_X0_owed hW (Nat.lt_of_lt_of_le hlt hW.nm)) ?_
            refine s_goto (tgt := 81) dX3_owedToOfficials_77 (by decide) ?_
            refine s_ladd dX3_owedToOfficials_81 ?_
            refine s_lstoren dX3_owedToOfficials_82 rfl (by decide) ?_
            refine s_iinc (v := (nI k) + 1) dX3_owedToOfficials_83 rfl (by rfl) (by decide) ?_
            refine s_goto (tgt := 5) dX3_owedToOfficials_86 (by decide) ?_
            exact s_sub (lo' := [(0, .ref w.th), (1, .int z), (2, .long (g_X3_owedToOfficials c z (k + 1))), (4, .int (nI (k + 1)))]) (List.forall_mem_cons.mpr ⟨rfl, List.forall_mem_cons.mpr ⟨rfl, List.forall_mem_cons.mpr ⟨congrArg (fun z => some (Value.long z)) (Eq.symm (by rw [g_X3_owedToOfficials_s, if_neg c_32, if_neg c_48, if_neg c_69])), List.forall_mem_cons.mpr ⟨congrArg (fun z => some (Value.int z)) (nI_1 k), fun _ h => absurd h List.not_mem_nil⟩⟩⟩⟩) (Nat.zero_le _) (Nat.zero_le _) (ih (k + 1) (by omega))
  exact s_sub (lo' := [(0, .ref w.th), (1, .int z), (2, .long (g_X3_owedToOfficials c z 0)), (4, .int (nI 0))]) (List.forall_mem_cons.mpr ⟨rfl, List.forall_mem_cons.mpr ⟨rfl, List.forall_mem_cons.mpr ⟨rfl, List.forall_mem_cons.mpr ⟨rfl, fun _ h => absurd h List.not_mem_nil⟩⟩⟩⟩) (Nat.zero_le _) (Nat.zero_le _) (LP_5 w.n 0 (by omega))
def g_X3_bondsOwed (c : CC) (k0 : Int32) : Nat → Int64
  | 0 => 0
  | k + 1 => (g_X3_bondsOwed c k0 k) + (i_X3_votingWeight c k k0)
theorem g_X3_bondsOwed_s {c : CC} {k0 : Int32} {k : Nat} : g_X3_bondsOwed c k0 (k + 1) = ((g_X3_bondsOwed c k0 k) + (i_X3_votingWeight c k k0) : Int64) := rfl
def f_X3_bondsOwed (n : Nat) (c : CC) (k0 : Int32) : Int64 := (g_X3_bondsOwed c k0 n)
set_option maxHeartbeats 4000000 in
theorem m_X3_bondsOwed {tm : Nat × Nat} {S : Sto} {w : CAd} {c : CC}  {k0 : Int32} (hW : CW tm S w c)  : Ev tm M_X3_bondsOwed [.ref w.th, .int k0] S (Rt (some (.long (f_X3_bondsOwed w.n c k0))) S) := by
  have hF : FrC S S := FrC.rf
  refine ev_in ok_X3_bondsOwed (Nat.le_of_ble_eq_true rfl) ?_
  have hn40 := hW.n40
  refine s_lconst (v := 0) dX3_bondsOwed_0 (by decide) ?_
  refine s_lstoren dX3_bondsOwed_1 rfl (by decide) ?_
  refine s_iconst (v := 0) dX3_bondsOwed_2 (by decide) ?_
  refine s_istore dX3_bondsOwed_3 (by decide) ?_
  have LP_5 : ∀ (d k : Nat), k + d = w.n → Wp (Ev tm) tm M_X3_bondsOwed (Rt (some (.long (f_X3_bondsOwed w.n c k0))) S) 5 [(0, .ref w.th), (1, .int k0), (2, .long (g_X3_bondsOwed c k0 k)), (4, .int (nI k))] [] 0 0 S := by
    intro d
    induction d with
    | zero =>
      intro k hkd
      have hkn : k = w.n := by omega
      subst hkn
      refine s_iload dX3_bondsOwed_5 rfl ?_
      refine s_aloadn dX3_bondsOwed_7 rfl rfl ?_
      refine s_getR (n := 4) dX3_bondsOwed_8 rfl hW.th (fun _ _ _ => rfl) hW.ral ?_
      refine s_cv0R (n := 3) dX3_bondsOwed_11 rfl (kv hW.alK (by decide) rfl) rfl (by decide) (by decide) (by decide) (by decide) (Nat.le_of_ble_eq_true rfl) (m_size hW.lc) ?_
      refine s_icge (tgt := 42) dX3_bondsOwed_14 (by decide) (fun _ => ?_) (fun c => absurd (Int32.le_refl _) c)
      refine s_lloadn dX3_bondsOwed_42 rfl rfl ?_
      exact s_retl dX3_bondsOwed_43 rfl ⟨congrArg (fun z => Sum.inl (some (Value.long z))) (Eq.symm (by unfold f_X3_bondsOwed; rfl)), rfl⟩
    | succ d ih =>
      intro k hkd
      have hlt : k < w.n := by omega
      refine s_iload dX3_bondsOwed_5 rfl ?_
      refine s_aloadn dX3_bondsOwed_7 rfl rfl ?_
      refine s_getR (n := 4) dX3_bondsOwed_8 rfl hW.th (fun _ _ _ => rfl) hW.ral ?_
      refine s_cv0R (n := 3) dX3_bondsOwed_11 rfl (kv hW.alK (by decide) rfl) rfl (by decide) (by decide) (by decide) (by decide) (Nat.le_of_ble_eq_true rfl) (m_size hW.lc) ?_
      refine s_icge (tgt := 42) dX3_bondsOwed_14 (by decide) (fun c => absurd c (nI_ge hlt (by omega))) (fun _ => ?_)
      refine s_lloadn dX3_bondsOwed_17 rfl rfl ?_
      refine s_aloadn dX3_bondsOwed_18 rfl rfl ?_
      refine s_getR (n := 4) dX3_bondsOwed_19 rfl hW.th (fun _ _ _ => rfl) hW.ral ?_
      refine s_iload dX3_bondsOwed_22 rfl ?_
      refine s_cv1R (n := 11) dX3_bondsOwed_24 rfl (kv hW.alK (by decide) rfl) rfl (by decide) (by decide) (by decide) (by decide) (Nat.le_of_ble_eq_true rfl) (m_get hW.lc hlt) ?_
      refine s_cast (n := 2) dX3_bondsOwed_27 rfl (hW.cK _ (Nat.lt_of_lt_of_le hlt hW.nm)) ?_
      refine s_iloadn dX3_bondsOwed_30 rfl rfl ?_
      refine s_cs2R (n := 18) dX3_bondsOwed_31 rfl rfl (by decide) (by decide) (by decide) (by decide) (Nat.le_of_ble_eq_true rfl) (mi_X3_votingWeight hW (Nat.lt_of_lt_of_le hlt hW.nm)) ?_
      refine s_ladd dX3_bondsOwed_34 ?_
      refine s_lstoren dX3_bondsOwed_35 rfl (by decide) ?_
      refine s_iinc (v := (nI k) + 1) dX3_bondsOwed_36 rfl (by rfl) (by decide) ?_
      refine s_goto (tgt := 5) dX3_bondsOwed_39 (by decide) ?_
      exact s_sub (lo' := [(0, .ref w.th), (1, .int k0), (2, .long (g_X3_bondsOwed c k0 (k + 1))), (4, .int (nI (k + 1)))]) (List.forall_mem_cons.mpr ⟨rfl, List.forall_mem_cons.mpr ⟨rfl, List.forall_mem_cons.mpr ⟨congrArg (fun z => some (Value.long z)) (Eq.symm (by rw [g_X3_bondsOwed_s])), List.forall_mem_cons.mpr ⟨congrArg (fun z => some (Value.int z)) (nI_1 k), fun _ h => absurd h List.not_mem_nil⟩⟩⟩⟩) (Nat.zero_le _) (Nat.zero_le _) (ih (k + 1) (by omega))
  exact s_sub (lo' := [(0, .ref w.th), (1, .int k0), (2, .long (g_X3_bondsOwed c k0 0)), (4, .int (nI 0))]) (List.forall_mem_cons.mpr ⟨rfl, List.forall_mem_cons.mpr ⟨rfl, List.forall_mem_cons.mpr ⟨rfl, List.forall_mem_cons.mpr ⟨rfl, fun _ h => absurd h List.not_mem_nil⟩⟩⟩⟩) (Nat.zero_le _) (Nat.zero_le _) (LP_5 w.n 0 (by omega))
def g_X3_bondsOwedWithYes (c : CC) (j : Nat) (k0 : Int32) : Nat → Int64
  | 0 => 0
  | k + 1 => if (i_X1_hasYesOf c j (nI k)) = 0 then (g_X3_bondsOwedWithYes c j k0 k) + 0 else (g_X3_bondsOwedWithYes c j k0 k) + (i_X3_votingWeight c k k0)
theorem g_X3_bondsOwedWithYes_s {c : CC} {j : Nat} {k0 : Int32} {k : Nat} : g_X3_bondsOwedWithYes c j k0 (k + 1) = (if (i_X1_hasYesOf c j (nI k)) = 0 then (g_X3_bondsOwedWithYes c j k0 k) + 0 else (g_X3_bondsOwedWithYes c j k0 k) + (i_X3_votingWeight c k k0) : Int64) := rfl
def f_X3_bondsOwedWithYes (n : Nat) (c : CC) (j : Nat) (k0 : Int32) : Int64 := (g_X3_bondsOwedWithYes c j k0 n)
set_option maxHeartbeats 4000000 in
theorem m_X3_bondsOwedWithYes {tm : Nat × Nat} {S : Sto} {w : CAd} {c : CC}  {j : Nat} {k0 : Int32} (hW : CW tm S w c) (hj : j < w.no) : Ev tm M_X3_bondsOwedWithYes [.ref w.th, .ref (w.oa j), .int k0] S (Rt (some (.long (f_X3_bondsOwedWithYes w.n c j k0))) S) := by
  have hF : FrC S S := FrC.rf
  refine ev_in ok_X3_bondsOwedWithYes (Nat.le_of_ble_eq_true rfl) ?_
  have hn40 := hW.n40
  refine s_lconst (v := 0) dX3_bondsOwedWithYes_0 (by decide) ?_
  refine s_lstoren dX3_bondsOwedWithYes_1 rfl (by decide) ?_
  refine s_iconst (v := 0) dX3_bondsOwedWithYes_2 (by decide) ?_
  refine s_istore dX3_bondsOwedWithYes_3 (by decide) ?_
  have LP_5 : ∀ (d k : Nat), k + d = w.n → Wp (Ev tm) tm M_X3_bondsOwedWithYes (Rt (some (.long (f_X3_bondsOwedWithYes w.n c j k0))) S) 5 [(0, .ref w.th), (1, .ref (w.oa j)), (2, .int k0), (3, .long (g_X3_bondsOwedWithYes c j k0 k)), (5, .int (nI k))] [] 0 0 S := by
    intro d
    induction d with
    | zero =>
      intro k hkd
      have hkn : k = w.n := by omega
      subst hkn
      refine s_iload dX3_bondsOwedWithYes_5 rfl ?_
      refine s_aloadn dX3_bondsOwedWithYes_7 rfl rfl ?_
      refine s_getR (n := 4) dX3_bondsOwedWithYes_8 rfl hW.th (fun _ _ _ => rfl) hW.ral ?_
      refine s_cv0R (n := 3) dX3_bondsOwedWithYes_11 rfl (kv hW.alK (by decide) rfl) rfl (by decide) (by decide) (by decide) (by decide) (Nat.le_of_ble_eq_true rfl) (m_size hW.lc) ?_
      refine s_icge (tgt := 55) dX3_bondsOwedWithYes_14 (by decide) (fun _ => ?_) (fun c => absurd (Int32.le_refl _) c)
      refine s_lloadn dX3_bondsOwedWithYes_55 rfl rfl ?_
      exact s_retl dX3_bondsOwedWithYes_56 rfl ⟨congrArg (fun z => Sum.inl (some (Value.long z))) (Eq.symm (by unfold f_X3_bondsOwedWithYes; rfl)), rfl⟩
    | succ d ih =>
      intro k hkd
      have hlt : k < w.n := by omega
      refine s_iload dX3_bondsOwedWithYes_5 rfl ?_
      refine s_aloadn dX3_bondsOwedWithYes_7 rfl rfl ?_
      refine s_getR (n := 4) dX3_bondsOwedWithYes_8 rfl hW.th (fun _ _ _ => rfl) hW.ral ?_
      refine s_cv0R (n := 3) dX3_bondsOwedWithYes_11 rfl (kv hW.alK (by decide) rfl) rfl (by decide) (by decide) (by decide) (by decide) (Nat.le_of_ble_eq_true rfl) (m_size hW.lc) ?_
      refine s_icge (tgt := 55) dX3_bondsOwedWithYes_14 (by decide) (fun c => absurd c (nI_ge hlt (by omega))) (fun _ => ?_)
      refine s_lloadn dX3_bondsOwedWithYes_17 rfl rfl ?_
      refine s_aloadn dX3_bondsOwedWithYes_18 rfl rfl ?_
      refine s_iload dX3_bondsOwedWithYes_19 rfl ?_
      refine s_cv1R (n := 33) dX3_bondsOwedWithYes_21 rfl (kv (hW.oK hj) (by decide) rfl) rfl (by decide) (by decide) (by decide) (by decide) (Nat.le_of_ble_eq_true rfl) (mi_X1_hasYesOf hW hj) ?_
      refine s_ifeq (tgt := 46) dX3_bondsOwedWithYes_24 (by decide) (fun c_24 => ?_) (fun c_24 => ?_)
      · skip
        refine s_lconst (v := 0) dX3_bondsOwedWithYes_46 (by decide) ?_
        refine s_ladd dX3_bondsOwedWithYes_47 ?_
        refine s_lstoren dX3_bondsOwedWithYes_48 rfl (by decide) ?_
        refine s_iinc (v := (nI k) + 1) dX3_bondsOwedWithYes_49 rfl (by rfl) (by decide) ?_
        refine s_goto (tgt := 5) dX3_bondsOwedWithYes_52 (by decide) ?_
        exact s_sub (lo' := [(0, .ref w.th), (1, .ref (w.oa j)), (2, .int k0), (3, .long (g_X3_bondsOwedWithYes c j k0 (k + 1))), (5, .int (nI (k + 1)))]) (List.forall_mem_cons.mpr ⟨rfl, List.forall_mem_cons.mpr ⟨rfl, List.forall_mem_cons.mpr ⟨rfl, List.forall_mem_cons.mpr ⟨congrArg (fun z => some (Value.long z)) (Eq.symm (by rw [g_X3_bondsOwedWithYes_s, if_pos c_24])), List.forall_mem_cons.mpr ⟨congrArg (fun z => some (Value.int z)) (nI_1 k), fun _ h => absurd h List.not_mem_nil⟩⟩⟩⟩⟩) (Nat.zero_le _) (Nat.zero_le _) (ih (k + 1) (by omega))
      · skip
        refine s_aloadn dX3_bondsOwedWithYes_27 rfl rfl ?_
        refine s_getR (n := 4) dX3_bondsOwedWithYes_28 rfl hW.th (fun _ _ _ => rfl) hW.ral ?_
        refine s_iload dX3_bondsOwedWithYes_31 rfl ?_
        refine s_cv1R (n := 11) dX3_bondsOwedWithYes_33 rfl (kv hW.alK (by decide) rfl) rfl (by decide) (by decide) (by decide) (by decide) (Nat.le_of_ble_eq_true rfl) (m_get hW.lc hlt) ?_
        refine s_cast (n := 2) dX3_bondsOwedWithYes_36 rfl (hW.cK _ (Nat.lt_of_lt_of_le hlt hW.nm)) ?_
        refine s_iloadn dX3_bondsOwedWithYes_39 rfl rfl ?_
        refine s_cs2R (n := 18) dX3_bondsOwedWithYes_40 rfl rfl (by decide) (by decide) (by decide) (by decide) (Nat.le_of_ble_eq_true rfl) (mi_X3_votingWeight hW (Nat.lt_of_lt_of_le hlt hW.nm)) ?_
        refine s_goto (tgt := 47) dX3_bondsOwedWithYes_43 (by decide) ?_
        refine s_ladd dX3_bondsOwedWithYes_47 ?_
        refine s_lstoren dX3_bondsOwedWithYes_48 rfl (by decide) ?_
        refine s_iinc (v := (nI k) + 1) dX3_bondsOwedWithYes_49 rfl (by rfl) (by decide) ?_
        refine s_goto (tgt := 5) dX3_bondsOwedWithYes_52 (by decide) ?_
        exact s_sub (lo' := [(0, .ref w.th), (1, .ref (w.oa j)), (2, .int k0), (3, .long (g_X3_bondsOwedWithYes c j k0 (k + 1))), (5, .int (nI (k + 1)))]) (List.forall_mem_cons.mpr ⟨rfl, List.forall_mem_cons.mpr ⟨rfl, List.forall_mem_cons.mpr ⟨rfl, List.forall_mem_cons.mpr ⟨congrArg (fun z => some (Value.long z)) (Eq.symm (by rw [g_X3_bondsOwedWithYes_s, if_neg c_24])), List.forall_mem_cons.mpr ⟨congrArg (fun z => some (Value.int z)) (nI_1 k), fun _ h => absurd h List.not_mem_nil⟩⟩⟩⟩⟩) (Nat.zero_le _) (Nat.zero_le _) (ih (k + 1) (by omega))
  exact s_sub (lo' := [(0, .ref w.th), (1, .ref (w.oa j)), (2, .int k0), (3, .long (g_X3_bondsOwedWithYes c j k0 0)), (5, .int (nI 0))]) (List.forall_mem_cons.mpr ⟨rfl, List.forall_mem_cons.mpr ⟨rfl, List.forall_mem_cons.mpr ⟨rfl, List.forall_mem_cons.mpr ⟨rfl, List.forall_mem_cons.mpr ⟨rfl, fun _ h => absurd h List.not_mem_nil⟩⟩⟩⟩⟩) (Nat.zero_le _) (Nat.zero_le _) (LP_5 w.n 0 (by omega))
def f_X3_hasMajority (n : Nat) (c : CC) (j : Nat) (k0 pc : Int32) : Int32 := if (f_X3_bondsOwed n c k0) ≤ 0 then 0 else (if ((f_X3_bondsOwedWithYes n c j k0) * 100) < (((pc : Int32).toInt64) * (f_X3_bondsOwed n c k0)) then 0 else 1)
theorem b_X3_hasMajority {n : Nat} {c : CC} {j : Nat} {k0 pc : Int32} : f_X3_hasMajority n c j k0 pc = 0 ∨ f_X3_hasMajority n c j k0 pc = 1 := by
  unfold f_X3_hasMajority
  repeat' split
  all_goals first | decide | exact Or.inl rfl | exact Or.inr rfl | exact Or.inl ‹_›
set_option maxHeartbeats 4000000 in
theorem m_X3_hasMajority {tm : Nat × Nat} {S : Sto} {w : CAd} {c : CC}  {j : Nat} {k0 pc : Int32} (hW : CW tm S w c) (hj : j < w.no) : Ev tm M_X3_hasMajority [.ref w.th, .ref (w.oa j), .int k0, .int pc] S (Rt (some (.int (f_X3_hasMajority w.n c j k0 pc))) S) := by
  have hF : FrC S S := FrC.rf
  refine ev_in ok_X3_hasMajority (Nat.le_of_ble_eq_true rfl) ?_
  have hn40 := hW.n40
  refine s_aloadn dX3_hasMajority_0 rfl rfl ?_
  refine s_iloadn dX3_hasMajority_1 rfl rfl ?_
  refine s_cv1R (n := 34) dX3_hasMajority_2 rfl (kv hW.th (by decide) rfl) rfl (by decide) (by decide) (by decide) (by decide) (Nat.le_of_ble_eq_true rfl) (m_X3_bondsOwed hW ) ?_
  refine s_lstore dX3_hasMajority_5 (by decide) ?_
  refine s_lload dX3_hasMajority_7 rfl ?_
  refine s_lconst (v := 0) dX3_hasMajority_9 (by decide) ?_
  refine s_lcle (tgt := 37) dX3_hasMajority_10 dX3_hasMajority_11 (by decide) (fun c_10 => ?_) (fun c_10 => ?_)
  · skip
    refine s_iconst (v := 0) dX3_hasMajority_37 (by decide) ?_
    exact s_reti dX3_hasMajority_38 rfl rfl ⟨congrArg (fun z => Sum.inl (some (Value.int z))) (Eq.symm (by unfold f_X3_hasMajority; rw [if_pos c_10])), rfl⟩
  · skip
    refine s_aloadn dX3_hasMajority_14 rfl rfl ?_
    refine s_aloadn dX3_hasMajority_15 rfl rfl ?_
    refine s_iloadn dX3_hasMajority_16 rfl rfl ?_
    refine s_cv2R (n := 35) dX3_hasMajority_17 rfl (kv hW.th (by decide) rfl) rfl (by decide) (by decide) (by decide) (by decide) (Nat.le_of_ble_eq_true rfl) (m_X3_bondsOwedWithYes hW hj) ?_
    refine s_ldc2 (v := 100) dX3_hasMajority_20 csl_RX3_279 ?_
    refine s_lmul dX3_hasMajority_23 ?_
    refine s_iloadn dX3_hasMajority_24 rfl rfl ?_
    refine s_i2l dX3_hasMajority_25 ?_
    refine s_lload dX3_hasMajority_26 rfl ?_
    refine s_lmul dX3_hasMajority_28 ?_
    refine s_lclt (tgt := 37) dX3_hasMajority_29 dX3_hasMajority_30 (by decide) (fun c_29 => ?_) (fun c_29 => ?_)
    · skip
      refine s_iconst (v := 0) dX3_hasMajority_37 (by decide) ?_
      exact s_reti dX3_hasMajority_38 rfl rfl ⟨congrArg (fun z => Sum.inl (some (Value.int z))) (Eq.symm (by unfold f_X3_hasMajority; rw [if_neg c_10, if_pos c_29])), rfl⟩
    · skip
      refine s_iconst (v := 1) dX3_hasMajority_33 (by decide) ?_
      refine s_goto (tgt := 38) dX3_hasMajority_34 (by decide) ?_
      exact s_reti dX3_hasMajority_38 rfl rfl ⟨congrArg (fun z => Sum.inl (some (Value.int z))) (Eq.symm (by unfold f_X3_hasMajority; rw [if_neg c_10, if_neg c_29])), rfl⟩
def g_X3_arePooled (n : Nat) (c : CC) (j : Nat) : Nat → Int32
  | 0 => (f_X3_hasMajority n c j (-1) 66)
  | k + 1 => if (g_X3_arePooled n c j k) = 0 then 0 else (if (f_X3_bondsOwed n c (nI k)) = 0 then 1 else (if (f_X3_hasMajority n c j (nI k) 50) = 0 then 0 else 1))
theorem g_X3_arePooled_s {n : Nat} {c : CC} {j : Nat} {k : Nat} : g_X3_arePooled n c j (k + 1) = (if (g_X3_arePooled n c j k) = 0 then 0 else (if (f_X3_bondsOwed n c (nI k)) = 0 then 1 else (if (f_X3_hasMajority n c j (nI k) 50) = 0 then 0 else 1)) : Int32) := rfl
theorem b_g_X3_arePooled {n : Nat} {c : CC} {j : Nat} {k : Nat} : g_X3_arePooled n c j k = 0 ∨ g_X3_arePooled n c j k = 1 := by
  induction k with
  | zero => exact b_X3_hasMajority
  | succ k ih =>
    rw [g_X3_arePooled_s]
    repeat' split
    all_goals first | exact Or.inl rfl | exact Or.inr rfl | exact ih
def f_X3_arePooled (n : Nat) (c : CC) (j : Nat) : Int32 := (g_X3_arePooled n c j 4)
theorem b_X3_arePooled {n : Nat} {c : CC} {j : Nat} : f_X3_arePooled n c j = 0 ∨ f_X3_arePooled n c j = 1 := by
  unfold f_X3_arePooled
  repeat' split
  all_goals first | exact b_g_X3_arePooled | exact Or.inl rfl | exact Or.inr rfl | exact Or.inl ‹_›
set_option maxHeartbeats 4000000 in
theorem m_X3_arePooled {tm : Nat × Nat} {S : Sto} {w : CAd} {c : CC}  {j : Nat} (hW : CW tm S w c) (hj : j < w.no) : Ev tm M_X3_arePooled [.ref w.th, .ref (w.oa j)] S (Rt (some (.int (f_X3_arePooled w.n c j))) S) := by
  have hF : FrC S S := FrC.rf
  refine ev_in ok_X3_arePooled (Nat.le_of_ble_eq_true rfl) ?_
  have hn40 := hW.n40
  refine s_aloadn dX3_arePooled_0 rfl rfl ?_
  refine s_aloadn dX3_arePooled_1 rfl rfl ?_
  refine s_iconst (v := (-1)) dX3_arePooled_2 (by decide) ?_
  refine s_bipush (v := 66) dX3_arePooled_3 (by decide) ?_
  refine s_cv3R (n := 36) dX3_arePooled_5 rfl (kv hW.th (by decide) rfl) rfl (by decide) (by decide) (by decide) (by decide) (Nat.le_of_ble_eq_true rfl) (m_X3_hasMajority hW hj) ?_
  refine s_istoren dX3_arePooled_8 rfl (by decide) ?_
  refine s_iconst (v := 0) dX3_arePooled_9 (by decide) ?_
  refine s_istoren dX3_arePooled_10 rfl (by decide) ?_
  have LP_11 : ∀ (d k : Nat), k + d = 4 → Wp (Ev tm) tm M_X3_arePooled (Rt (some (.int (f_X3_arePooled w.n c j))) S) 11 [(0, .ref w.th), (1, .ref (w.oa j)), (2, .int (g_X3_arePooled w.n c j k)), (3, .int (nI k))] [] 0 0 S := by
    intro d
    induction d with
    | zero =>
      intro k hkd
      have hkn : k = 4 := by omega
      subst hkn
      refine s_iloadn dX3_arePooled_11 rfl rfl ?_
      refine s_iconst (v := 3) dX3_arePooled_12 (by decide) ?_
      refine s_icgt (tgt := 53) dX3_arePooled_13 (by decide) (fun _ => ?_) (fun c => absurd (show (3 : Int32) < nI 4 from by decide) c)
      refine s_iloadn dX3_arePooled_53 rfl rfl ?_
      exact s_reti dX3_arePooled_54 rfl (nr_bool b_g_X3_arePooled) ⟨congrArg (fun z => Sum.inl (some (Value.int z))) (Eq.symm (by unfold f_X3_arePooled; rfl)), rfl⟩
    | succ d ih =>
      intro k hkd
      have hlt : k < 4 := by omega
      refine s_iloadn dX3_arePooled_11 rfl rfl ?_
      refine s_iconst (v := 3) dX3_arePooled_12 (by decide) ?_
      refine s_icgt (tgt := 53) dX3_arePooled_13 (by decide) (fun c => absurd c (nI_nlt (a := 3) (b := k) (by omega) (by decide))) (fun _ => ?_)
      refine s_iloadn dX3_arePooled_16 rfl rfl ?_
      refine s_ifeq (tgt := 45) dX3_arePooled_17 (by decide) (fun c_17 => ?_) (fun c_17 => ?_)
      · skip
        refine s_iconst (v := 0) dX3_arePooled_45 (by decide) ?_
        refine s_istoren dX3_arePooled_46 rfl (by decide) ?_
        refine s_iinc (v := (nI k) + 1) dX3_arePooled_47 rfl (by rfl) (by decide) ?_
        refine s_goto (tgt := 11) dX3_arePooled_50 (by decide) ?_
        exact s_sub (lo' := [(0, .ref w.th), (1, .ref (w.oa j)), (2, .int (g_X3_arePooled w.n c j (k + 1))), (3, .int (nI (k + 1)))]) (List.forall_mem_cons.mpr ⟨rfl, List.forall_mem_cons.mpr ⟨rfl, List.forall_mem_cons.mpr ⟨congrArg (fun z => some (Value.int z)) (Eq.symm (by rw [g_X3_arePooled_s, if_pos c_17])), List.forall_mem_cons.mpr ⟨congrArg (fun z => some (Value.int z)) (nI_1 k), fun _ h => absurd h List.not_mem_nil⟩⟩⟩⟩) (Nat.zero_le _) (Nat.zero_le _) (ih (k + 1) (by omega))
      · skip
        refine s_aloadn dX3_arePooled_20 rfl rfl ?_
        refine s_iloadn dX3_arePooled_21 rfl rfl ?_
        refine s_cv1R (n := 34) dX3_arePooled_22 rfl (kv hW.th (by decide) rfl) rfl (by decide) (by decide) (by decide) (by decide) (Nat.le_of_ble_eq_true rfl) (m_X3_bondsOwed hW ) ?_
        refine s_lconst (v := 0) dX3_arePooled_25 (by decide) ?_
        refine s_lceq (tgt := 41) dX3_arePooled_26 dX3_arePooled_27 (by decide) (fun c_26 => ?_) (fun c_26 => ?_)
        · skip
          refine s_iconst (v := 1) dX3_arePooled_41 (by decide) ?_
          refine s_goto (tgt := 46) dX3_arePooled_42 (by decide) ?_
          refine s_istoren dX3_arePooled_46 rfl (by decide) ?_
          refine s_iinc (v := (nI k) + 1) dX3_arePooled_47 rfl (by rfl) (by decide) ?_
          refine s_goto (tgt := 11) dX3_arePooled_50 (by decide) ?_
          exact s_sub (lo' := [(0, .ref w.th), (1, .ref (w.oa j)), (2, .int (g_X3_arePooled w.n c j (k + 1))), (3, .int (nI (k + 1)))]) (List.forall_mem_cons.mpr ⟨rfl, List.forall_mem_cons.mpr ⟨rfl, List.forall_mem_cons.mpr ⟨congrArg (fun z => some (Value.int z)) (Eq.symm (by rw [g_X3_arePooled_s, if_neg c_17, if_pos c_26])), List.forall_mem_cons.mpr ⟨congrArg (fun z => some (Value.int z)) (nI_1 k), fun _ h => absurd h List.not_mem_nil⟩⟩⟩⟩) (Nat.zero_le _) (Nat.zero_le _) (ih (k + 1) (by omega))
        · skip
          refine s_aloadn dX3_arePooled_30 rfl rfl ?_
          refine s_aloadn dX3_arePooled_31 rfl rfl ?_
          refine s_iloadn dX3_arePooled_32 rfl rfl ?_
          refine s_bipush (v := 50) dX3_arePooled_33 (by decide) ?_
          refine s_cv3R (n := 36) dX3_arePooled_35 rfl (kv hW.th (by decide) rfl) rfl (by decide) (by decide) (by decide) (by decide) (Nat.le_of_ble_eq_true rfl) (m_X3_hasMajority hW hj) ?_
          refine s_ifeq (tgt := 45) dX3_arePooled_38 (by decide) (fun c_38 => ?_) (fun c_38 => ?_)
          · skip
            refine s_iconst (v := 0) dX3_arePooled_45 (by decide) ?_
            refine s_istoren dX3_arePooled_46 rfl (by decide) ?_
            refine s_iinc (v := (nI k) + 1) dX3_arePooled_47 rfl (by rfl) (by decide) ?_
            refine s_goto (tgt := 11) dX3_arePooled_50 (by decide) ?_
            exact s_sub (lo' := [(0, .ref w.th), (1, .ref (w.oa j)), (2, .int (g_X3_arePooled w.n c j (k + 1))), (3, .int (nI (k + 1)))]) (List.forall_mem_cons.mpr ⟨rfl, List.forall_mem_cons.mpr ⟨rfl, List.forall_mem_cons.mpr ⟨congrArg (fun z => some (Value.int z)) (Eq.symm (by rw [g_X3_arePooled_s, if_neg c_17, if_neg c_26, if_pos c_38])), List.forall_mem_cons.mpr ⟨congrArg (fun z => some (Value.int z)) (nI_1 k), fun _ h => absurd h List.not_mem_nil⟩⟩⟩⟩) (Nat.zero_le _) (Nat.zero_le _) (ih (k + 1) (by omega))
          · skip
            refine s_iconst (v := 1) dX3_arePooled_41 (by decide) ?_
            refine s_goto (tgt := 46) dX3_arePooled_42 (by decide) ?_
            refine s_istoren dX3_arePooled_46 rfl (by decide) ?_
            refine s_iinc (v := (nI k) + 1) dX3_arePooled_47 rfl (by rfl) (by decide) ?_
            refine s_goto (tgt := 11) dX3_arePooled_50 (by decide) ?_
            exact s_sub (lo' := [(0, .ref w.th), (1, .ref (w.oa j)), (2, .int (g_X3_arePooled w.n c j (k + 1))), (3, .int (nI (k + 1)))]) (List.forall_mem_cons.mpr ⟨rfl, List.forall_mem_cons.mpr ⟨rfl, List.forall_mem_cons.mpr ⟨congrArg (fun z => some (Value.int z)) (Eq.symm (by rw [g_X3_arePooled_s, if_neg c_17, if_neg c_26, if_neg c_38])), List.forall_mem_cons.mpr ⟨congrArg (fun z => some (Value.int z)) (nI_1 k), fun _ h => absurd h List.not_mem_nil⟩⟩⟩⟩) (Nat.zero_le _) (Nat.zero_le _) (ih (k + 1) (by omega))
  exact s_sub (lo' := [(0, .ref w.th), (1, .ref (w.oa j)), (2, .int (g_X3_arePooled w.n c j 0)), (3, .int (nI 0))]) (List.forall_mem_cons.mpr ⟨rfl, List.forall_mem_cons.mpr ⟨rfl, List.forall_mem_cons.mpr ⟨rfl, List.forall_mem_cons.mpr ⟨rfl, fun _ h => absurd h List.not_mem_nil⟩⟩⟩⟩) (Nat.zero_le _) (Nat.zero_le _) (LP_11 4 0 (by omega))
def g_X3_seriesToSwap (n : Nat) (c : CC) (j : Nat) : Nat → Int32
  | 0 => 0
  | k + 1 => if (f_X3_arePooled n c j) = 0 then (if (f_X3_hasMajority n c j (nI k) 75) = 0 then (f_X3_withBit (g_X3_seriesToSwap n c j k) (nI k) 0) else (f_X3_withBit (g_X3_seriesToSwap n c j k) (nI k) 1)) else (f_X3_withBit (g_X3_seriesToSwap n c j k) (nI k) 1)
theorem g_X3_seriesToSwap_s {n : Nat} {c : CC} {j : Nat} {k : Nat} : g_X3_seriesToSwap n c j (k + 1) = (if (f_X3_arePooled n c j) = 0 then (if (f_X3_hasMajority n c j (nI k) 75) = 0 then (f_X3_withBit (g_X3_seriesToSwap n c j k) (nI k) 0) else (f_X3_withBit (g_X3_seriesToSwap n c j k) (nI k) 1)) else (f_X3_withBit (g_X3_seriesToSwap n c j k) (nI k) 1) : Int32) := rfl
def f_X3_seriesToSwap (n : Nat) (c : CC) (j : Nat) : Int32 := (g_X3_seriesToSwap n c j 4)
set_option maxHeartbeats 4000000 in
theorem m_X3_seriesToSwap {tm : Nat × Nat} {S : Sto} {w : CAd} {c : CC}  {j : Nat} (hW : CW tm S w c) (hj : j < w.no) : Ev tm M_X3_seriesToSwap [.ref w.th, .ref (w.oa j)] S (Rt (some (.int (f_X3_seriesToSwap w.n c j))) S) := by
  have hF : FrC S S := FrC.rf
  refine ev_in ok_X3_seriesToSwap (Nat.le_of_ble_eq_true rfl) ?_
  have hn40 := hW.n40
  refine s_aloadn dX3_seriesToSwap_0 rfl rfl ?_
  refine s_aloadn dX3_seriesToSwap_1 rfl rfl ?_
  refine s_cv1R (n := 37) dX3_seriesToSwap_2 rfl (kv hW.th (by decide) rfl) rfl (by decide) (by decide) (by decide) (by decide) (Nat.le_of_ble_eq_true rfl) (m_X3_arePooled hW hj) ?_
  refine s_istoren dX3_seriesToSwap_5 rfl (by decide) ?_
  refine s_iconst (v := 0) dX3_seriesToSwap_6 (by decide) ?_
  refine s_istoren dX3_seriesToSwap_7 rfl (by decide) ?_
  refine s_iconst (v := 0) dX3_seriesToSwap_8 (by decide) ?_
  refine s_istore dX3_seriesToSwap_9 (by decide) ?_
  have LP_11 : ∀ (d k : Nat), k + d = 4 → Wp (Ev tm) tm M_X3_seriesToSwap (Rt (some (.int (f_X3_seriesToSwap w.n c j))) S) 11 [(0, .ref w.th), (1, .ref (w.oa j)), (2, .int (f_X3_arePooled w.n c j)), (3, .int (g_X3_seriesToSwap w.n c j k)), (4, .int (nI k))] [] 0 0 S := by
    intro d
    induction d with
    | zero =>
      intro k hkd
      have hkn : k = 4 := by omega
      subst hkn
      refine s_iload dX3_seriesToSwap_11 rfl ?_
      refine s_iconst (v := 3) dX3_seriesToSwap_13 (by decide) ?_
      refine s_icgt (tgt := 51) dX3_seriesToSwap_14 (by decide) (fun _ => ?_) (fun c => absurd (show (3 : Int32) < nI 4 from by decide) c)
      refine s_iloadn dX3_seriesToSwap_51 rfl rfl ?_
      exact s_reti dX3_seriesToSwap_52 rfl rfl ⟨congrArg (fun z => Sum.inl (some (Value.int z))) (Eq.symm (by unfold f_X3_seriesToSwap; rfl)), rfl⟩
    | succ d ih =>
      intro k hkd
      have hlt : k < 4 := by omega
      refine s_iload dX3_seriesToSwap_11 rfl ?_
      refine s_iconst (v := 3) dX3_seriesToSwap_13 (by decide) ?_
      refine s_icgt (tgt := 51) dX3_seriesToSwap_14 (by decide) (fun c => absurd c (nI_nlt (a := 3) (b := k) (by omega) (by decide))) (fun _ => ?_)
      refine s_iloadn dX3_seriesToSwap_17 rfl rfl ?_
      refine s_iload dX3_seriesToSwap_18 rfl ?_
      refine s_iloadn dX3_seriesToSwap_20 rfl rfl ?_
      refine s_ifne (tgt := 36) dX3_seriesToSwap_21 (by decide) (fun c_21 => ?_) (fun c_21 => ?_)
      · skip
        refine s_iconst (v := 1) dX3_seriesToSwap_36 (by decide) ?_
        refine s_goto (tgt := 41) dX3_seriesToSwap_37 (by decide) ?_
        refine s_cs3R (n := 15) dX3_seriesToSwap_41 rfl rfl (by decide) (by decide) (by decide) (by decide) (Nat.le_of_ble_eq_true rfl) (m_X3_withBit) ?_
        refine s_istoren dX3_seriesToSwap_44 rfl (by decide) ?_
        refine s_iinc (v := (nI k) + 1) dX3_seriesToSwap_45 rfl (by rfl) (by decide) ?_
        refine s_goto (tgt := 11) dX3_seriesToSwap_48 (by decide) ?_
        exact s_sub (lo' := [(0, .ref w.th), (1, .ref (w.oa j)), (2, .int (f_X3_arePooled w.n c j)), (3, .int (g_X3_seriesToSwap w.n c j (k + 1))), (4, .int (nI (k + 1)))]) (List.forall_mem_cons.mpr ⟨rfl, List.forall_mem_cons.mpr ⟨rfl, List.forall_mem_cons.mpr ⟨rfl, List.forall_mem_cons.mpr ⟨congrArg (fun z => some (Value.int z)) (Eq.symm (by rw [g_X3_seriesToSwap_s, if_neg c_21])), List.forall_mem_cons.mpr ⟨congrArg (fun z => some (Value.int z)) (nI_1 k), fun _ h => absurd h List.not_mem_nil⟩⟩⟩⟩⟩) (Nat.zero_le _) (Nat.zero_le _) (ih (k + 1) (by omega))
      · skip
        refine s_aloadn dX3_seriesToSwap_24 rfl rfl ?_
        refine s_aloadn dX3_seriesToSwap_25 rfl rfl ?_
        refine s_iload dX3_seriesToSwap_26 rfl ?_
        refine s_bipush (v := 75) dX3_seriesToSwap_28 (by decide) ?_
        refine s_cv3R (n := 36) dX3_seriesToSwap_30 rfl (kv hW.th (by decide) rfl) rfl (by decide) (by decide) (by decide) (by decide) (Nat.le_of_ble_eq_true rfl) (m_X3_hasMajority hW hj) ?_
        refine s_ifeq (tgt := 40) dX3_seriesToSwap_33 (by decide) (fun c_33 => ?_) (fun c_33 => ?_)
        · skip
          refine s_iconst (v := 0) dX3_seriesToSwap_40 (by decide) ?_
          refine s_cs3R (n := 15) dX3_seriesToSwap_41 rfl rfl (by decide) (by decide) (by decide) (by decide) (Nat.le_of_ble_eq_true rfl) (m_X3_withBit) ?_
          refine s_istoren dX3_seriesToSwap_44 rfl (by decide) ?_
          refine s_iinc (v := (nI k) + 1) dX3_seriesToSwap_45 rfl (by rfl) (by decide) ?_
          refine s_goto (tgt := 11) dX3_seriesToSwap_48 (by decide) ?_
          exact s_sub (lo' := [(0, .ref w.th), (1, .ref (w.oa j)), (2, .int (f_X3_arePooled w.n c j)), (3, .int (g_X3_seriesToSwap w.n c j (k + 1))), (4, .int (nI (k + 1)))]) (List.forall_mem_cons.mpr ⟨rfl, List.forall_mem_cons.mpr ⟨rfl, List.forall_mem_cons.mpr ⟨rfl, List.forall_mem_cons.mpr ⟨congrArg (fun z => some (Value.int z)) (Eq.symm (by rw [g_X3_seriesToSwap_s, if_pos c_21, if_pos c_33])), List.forall_mem_cons.mpr ⟨congrArg (fun z => some (Value.int z)) (nI_1 k), fun _ h => absurd h List.not_mem_nil⟩⟩⟩⟩⟩) (Nat.zero_le _) (Nat.zero_le _) (ih (k + 1) (by omega))
        · skip
          refine s_iconst (v := 1) dX3_seriesToSwap_36 (by decide) ?_
          refine s_goto (tgt := 41) dX3_seriesToSwap_37 (by decide) ?_
          refine s_cs3R (n := 15) dX3_seriesToSwap_41 rfl rfl (by decide) (by decide) (by decide) (by decide) (Nat.le_of_ble_eq_true rfl) (m_X3_withBit) ?_
          refine s_istoren dX3_seriesToSwap_44 rfl (by decide) ?_
          refine s_iinc (v := (nI k) + 1) dX3_seriesToSwap_45 rfl (by rfl) (by decide) ?_
          refine s_goto (tgt := 11) dX3_seriesToSwap_48 (by decide) ?_
          exact s_sub (lo' := [(0, .ref w.th), (1, .ref (w.oa j)), (2, .int (f_X3_arePooled w.n c j)), (3, .int (g_X3_seriesToSwap w.n c j (k + 1))), (4, .int (nI (k + 1)))]) (List.forall_mem_cons.mpr ⟨rfl, List.forall_mem_cons.mpr ⟨rfl, List.forall_mem_cons.mpr ⟨rfl, List.forall_mem_cons.mpr ⟨congrArg (fun z => some (Value.int z)) (Eq.symm (by rw [g_X3_seriesToSwap_s, if_pos c_21, if_neg c_33])), List.forall_mem_cons.mpr ⟨congrArg (fun z => some (Value.int z)) (nI_1 k), fun _ h => absurd h List.not_mem_nil⟩⟩⟩⟩⟩) (Nat.zero_le _) (Nat.zero_le _) (ih (k + 1) (by omega))
  exact s_sub (lo' := [(0, .ref w.th), (1, .ref (w.oa j)), (2, .int (f_X3_arePooled w.n c j)), (3, .int (g_X3_seriesToSwap w.n c j 0)), (4, .int (nI 0))]) (List.forall_mem_cons.mpr ⟨rfl, List.forall_mem_cons.mpr ⟨rfl, List.forall_mem_cons.mpr ⟨rfl, List.forall_mem_cons.mpr ⟨rfl, List.forall_mem_cons.mpr ⟨rfl, fun _ h => absurd h List.not_mem_nil⟩⟩⟩⟩⟩) (Nat.zero_le _) (Nat.zero_le _) (LP_11 4 0 (by omega))
def g_X3_wasSwapped (c : CC) (kd : Int32) : Nat → Int32
  | 0 => 0
  | k + 1 => if (g_X3_wasSwapped c kd k) = 0 then (if (c.ci k 0) = kd then (if (c.ci k 8) = 2 then 1 else 0) else 0) else 1
theorem g_X3_wasSwapped_s {c : CC} {kd : Int32} {k : Nat} : g_X3_wasSwapped c kd (k + 1) = (if (g_X3_wasSwapped c kd k) = 0 then (if (c.ci k 0) = kd then (if (c.ci k 8) = 2 then 1 else 0) else 0) else 1 : Int32) := rfl
theorem b_g_X3_wasSwapped {c : CC} {kd : Int32} {k : Nat} : g_X3_wasSwapped c kd k = 0 ∨ g_X3_wasSwapped c kd k = 1 := by
  induction k with
  | zero => exact Or.inl rfl
  | succ k ih =>
    rw [g_X3_wasSwapped_s]
    repeat' split
    all_goals first | exact Or.inl rfl | exact Or.inr rfl | exact ih
def f_X3_wasSwapped (n : Nat) (c : CC) (kd : Int32) : Int32 := (g_X3_wasSwapped c kd n)
theorem b_X3_wasSwapped {n : Nat} {c : CC} {kd : Int32} : f_X3_wasSwapped n c kd = 0 ∨ f_X3_wasSwapped n c kd = 1 := by
  unfold f_X3_wasSwapped
  repeat' split
  all_goals first | exact b_g_X3_wasSwapped | exact Or.inl rfl | exact Or.inr rfl | exact Or.inl ‹_›
set_option maxHeartbeats 4000000 in
theorem m_X3_wasSwapped {tm : Nat × Nat} {S : Sto} {w : CAd} {c : CC}  {kd : Int32} (hW : CW tm S w c)  : Ev tm M_X3_wasSwapped [.ref w.th, .int kd] S (Rt (some (.int (f_X3_wasSwapped w.n c kd))) S) := by
  have hF : FrC S S := FrC.rf
  refine ev_in ok_X3_wasSwapped (Nat.le_of_ble_eq_true rfl) ?_
  have hn40 := hW.n40
  refine s_iconst (v := 0) dX3_wasSwapped_0 (by decide) ?_
  refine s_istoren dX3_wasSwapped_1 rfl (by decide) ?_
  refine s_iconst (v := 0) dX3_wasSwapped_2 (by decide) ?_
  refine s_istoren dX3_wasSwapped_3 rfl (by decide) ?_
  have LP_4 : ∀ (d k : Nat), k + d = w.n → Wp (Ev tm) tm M_X3_wasSwapped (Rt (some (.int (f_X3_wasSwapped w.n c kd))) S) 4 [(0, .ref w.th), (1, .int kd), (2, .int (g_X3_wasSwapped c kd k)), (3, .int (nI k))] [] 0 0 S := by
    intro d
    induction d with
    | zero =>
      intro k hkd
      have hkn : k = w.n := by omega
      subst hkn
      refine s_iloadn dX3_wasSwapped_4 rfl rfl ?_
      refine s_aloadn dX3_wasSwapped_5 rfl rfl ?_
      refine s_getR (n := 4) dX3_wasSwapped_6 rfl hW.th (fun _ _ _ => rfl) hW.ral ?_
      refine s_cv0R (n := 3) dX3_wasSwapped_9 rfl (kv hW.alK (by decide) rfl) rfl (by decide) (by decide) (by decide) (by decide) (Nat.le_of_ble_eq_true rfl) (m_size hW.lc) ?_
      refine s_icge (tgt := 62) dX3_wasSwapped_12 (by decide) (fun _ => ?_) (fun c => absurd (Int32.le_refl _) c)
      refine s_iloadn dX3_wasSwapped_62 rfl rfl ?_
      exact s_reti dX3_wasSwapped_63 rfl (nr_bool b_g_X3_wasSwapped) ⟨congrArg (fun z => Sum.inl (some (Value.int z))) (Eq.symm (by unfold f_X3_wasSwapped; rfl)), rfl⟩
    | succ d ih =>
      intro k hkd
      have hlt : k < w.n := by omega
      refine s_iloadn dX3_wasSwapped_4 rfl rfl ?_
      refine s_aloadn dX3_wasSwapped_5 rfl rfl ?_
      refine s_getR (n := 4) dX3_wasSwapped_6 rfl hW.th (fun _ _ _ => rfl) hW.ral ?_
      refine s_cv0R (n := 3) dX3_wasSwapped_9 rfl (kv hW.alK (by decide) rfl) rfl (by decide) (by decide) (by decide) (by decide) (Nat.le_of_ble_eq_true rfl) (m_size hW.lc) ?_
      refine s_icge (tgt := 62) dX3_wasSwapped_12 (by decide) (fun c => absurd c (nI_ge hlt (by omega))) (fun _ => ?_)
      refine s_aloadn dX3_wasSwapped_15 rfl rfl ?_
      refine s_getR (n := 4) dX3_wasSwapped_16 rfl hW.th (fun _ _ _ => rfl) hW.ral ?_
      refine s_iloadn dX3_wasSwapped_19 rfl rfl ?_
      refine s_cv1R (n := 11) dX3_wasSwapped_20 rfl (kv hW.alK (by decide) rfl) rfl (by decide) (by decide) (by decide) (by decide) (Nat.le_of_ble_eq_true rfl) (m_get hW.lc hlt) ?_
      refine s_cast (n := 2) dX3_wasSwapped_23 rfl (hW.cK _ (Nat.lt_of_lt_of_le hlt hW.nm)) ?_
      refine s_astore dX3_wasSwapped_26 (by decide) ?_
      refine s_iloadn dX3_wasSwapped_28 rfl rfl ?_
      refine s_ifne (tgt := 50) dX3_wasSwapped_29 (by decide) (fun c_29 => ?_) (fun c_29 => ?_)
      · skip
        refine s_iconst (v := 1) dX3_wasSwapped_50 (by decide) ?_
        refine s_goto (tgt := 55) dX3_wasSwapped_51 (by decide) ?_
        refine s_istoren dX3_wasSwapped_55 rfl (by decide) ?_
        refine s_iinc (v := (nI k) + 1) dX3_wasSwapped_56 rfl (by rfl) (by decide) ?_
        refine s_goto (tgt := 4) dX3_wasSwapped_59 (by decide) ?_
        exact s_sub (lo' := [(0, .ref w.th), (1, .int kd), (2, .int (g_X3_wasSwapped c kd (k + 1))), (3, .int (nI (k + 1)))]) (List.forall_mem_cons.mpr ⟨rfl, List.forall_mem_cons.mpr ⟨rfl, List.forall_mem_cons.mpr ⟨congrArg (fun z => some (Value.int z)) (Eq.symm (by rw [g_X3_wasSwapped_s, if_neg c_29])), List.forall_mem_cons.mpr ⟨congrArg (fun z => some (Value.int z)) (nI_1 k), fun _ h => absurd h List.not_mem_nil⟩⟩⟩⟩) (Nat.zero_le _) (Nat.zero_le _) (ih (k + 1) (by omega))
      · skip
        refine s_aload dX3_wasSwapped_32 rfl ?_
        refine s_get (v := .int (c.ci k 0)) (n := 19) dX3_wasSwapped_34 rfl (hW.cK _ (Nat.lt_of_lt_of_le hlt hW.nm)) (congrArg Value.int (congrFun (hW.ci _ (Nat.lt_of_lt_of_le hlt hW.nm)) 0)) ?_
        refine s_iloadn dX3_wasSwapped_37 rfl rfl ?_
        refine s_icne (tgt := 54) dX3_wasSwapped_38 (by decide) (fun c_38 => ?_) (fun c_38 => ?_)
        · skip
          refine s_iconst (v := 0) dX3_wasSwapped_54 (by decide) ?_
          refine s_istoren dX3_wasSwapped_55 rfl (by decide) ?_
          refine s_iinc (v := (nI k) + 1) dX3_wasSwapped_56 rfl (by rfl) (by decide) ?_
          refine s_goto (tgt := 4) dX3_wasSwapped_59 (by decide) ?_
          exact s_sub (lo' := [(0, .ref w.th), (1, .int kd), (2, .int (g_X3_wasSwapped c kd (k + 1))), (3, .int (nI (k + 1)))]) (List.forall_mem_cons.mpr ⟨rfl, List.forall_mem_cons.mpr ⟨rfl, List.forall_mem_cons.mpr ⟨congrArg (fun z => some (Value.int z)) (Eq.symm (by rw [g_X3_wasSwapped_s, if_pos c_29, if_neg c_38])), List.forall_mem_cons.mpr ⟨congrArg (fun z => some (Value.int z)) (nI_1 k), fun _ h => absurd h List.not_mem_nil⟩⟩⟩⟩) (Nat.zero_le _) (Nat.zero_le _) (ih (k + 1) (by omega))
        · skip
          refine s_aload dX3_wasSwapped_41 rfl ?_
          refine s_get (v := .int (c.ci k 8)) (n := 34) dX3_wasSwapped_43 rfl (hW.cK _ (Nat.lt_of_lt_of_le hlt hW.nm)) (congrArg Value.int (congrFun (hW.ci _ (Nat.lt_of_lt_of_le hlt hW.nm)) 8)) ?_
          refine s_iconst (v := 2) dX3_wasSwapped_46 (by decide) ?_
          refine s_icne (tgt := 54) dX3_wasSwapped_47 (by decide) (fun c_47 => ?_) (fun c_47 => ?_)
          · skip
            refine s_iconst (v := 0) dX3_wasSwapped_54 (by decide) ?_
            refine s_istoren dX3_wasSwapped_55 rfl (by decide) ?_
            refine s_iinc (v := (nI k) + 1) dX3_wasSwapped_56 rfl (by rfl) (by decide) ?_
            refine s_goto (tgt := 4) dX3_wasSwapped_59 (by decide) ?_
            exact s_sub (lo' := [(0, .ref w.th), (1, .int kd), (2, .int (g_X3_wasSwapped c kd (k + 1))), (3, .int (nI (k + 1)))]) (List.forall_mem_cons.mpr ⟨rfl, List.forall_mem_cons.mpr ⟨rfl, List.forall_mem_cons.mpr ⟨congrArg (fun z => some (Value.int z)) (Eq.symm (by rw [g_X3_wasSwapped_s, if_pos c_29, if_pos c_38, if_neg c_47])), List.forall_mem_cons.mpr ⟨congrArg (fun z => some (Value.int z)) (nI_1 k), fun _ h => absurd h List.not_mem_nil⟩⟩⟩⟩) (Nat.zero_le _) (Nat.zero_le _) (ih (k + 1) (by omega))
          · skip
            refine s_iconst (v := 1) dX3_wasSwapped_50 (by decide) ?_
            refine s_goto (tgt := 55) dX3_wasSwapped_51 (by decide) ?_
            refine s_istoren dX3_wasSwapped_55 rfl (by decide) ?_
            refine s_iinc (v := (nI k) + 1) dX3_wasSwapped_56 rfl (by rfl) (by decide) ?_
            refine s_goto (tgt := 4) dX3_wasSwapped_59 (by decide) ?_
            exact s_sub (lo' := [(0, .ref w.th), (1, .int kd), (2, .int (g_X3_wasSwapped c kd (k + 1))), (3, .int (nI (k + 1)))]) (List.forall_mem_cons.mpr ⟨rfl, List.forall_mem_cons.mpr ⟨rfl, List.forall_mem_cons.mpr ⟨congrArg (fun z => some (Value.int z)) (Eq.symm (by rw [g_X3_wasSwapped_s, if_pos c_29, if_pos c_38, if_pos c_47])), List.forall_mem_cons.mpr ⟨congrArg (fun z => some (Value.int z)) (nI_1 k), fun _ h => absurd h List.not_mem_nil⟩⟩⟩⟩) (Nat.zero_le _) (Nat.zero_le _) (ih (k + 1) (by omega))
  exact s_sub (lo' := [(0, .ref w.th), (1, .int kd), (2, .int (g_X3_wasSwapped c kd 0)), (3, .int (nI 0))]) (List.forall_mem_cons.mpr ⟨rfl, List.forall_mem_cons.mpr ⟨rfl, List.forall_mem_cons.mpr ⟨rfl, List.forall_mem_cons.mpr ⟨rfl, fun _ h => absurd h List.not_mem_nil⟩⟩⟩⟩) (Nat.zero_le _) (Nat.zero_le _) (LP_4 w.n 0 (by omega))
def g_X3_effortOf (c : CC) (kd : Int32) : Nat → Int64 × Int64
  | 0 => (0, 0)
  | k + 1 => if (c.ci k 0) = kd then (((g_X3_effortOf c kd k).1) + (c.cj k 13), ((g_X3_effortOf c kd k).2) + (c.cj k 14)) else ((g_X3_effortOf c kd k).1, (g_X3_effortOf c kd k).2)
theorem g_X3_effortOf_s {c : CC} {kd : Int32} {k : Nat} : g_X3_effortOf c kd (k + 1) = (if (c.ci k 0) = kd then (((g_X3_effortOf c kd k).1) + (c.cj k 13), ((g_X3_effortOf c kd k).2) + (c.cj k 14)) else ((g_X3_effortOf c kd k).1, (g_X3_effortOf c kd k).2) : Int64 × Int64) := rfl
def f_X3_effortOf (n : Nat) (c : CC) (kd : Int32) : Int32 := if ((g_X3_effortOf c kd n).1) = 0 then 0 else (10000 - (f_X3_quotient (10000 * ((g_X3_effortOf c kd n).2)) ((g_X3_effortOf c kd n).1)) : Int64).toInt32
set_option maxHeartbeats 4000000 in
theorem m_X3_effortOf {tm : Nat × Nat} {S : Sto} {w : CAd} {c : CC}  {kd : Int32} (hW : CW tm S w c)  : Ev tm M_X3_effortOf [.ref w.th, .int kd] S (Rt (some (.int (f_X3_effortOf w.n c kd))) S) := by
  have hF : FrC S S := FrC.rf
  refine ev_in ok_X3_effortOf (Nat.le_of_ble_eq_true rfl) ?_
  have hn40 := hW.n40
  refine s_lconst (v := 0) dX3_effortOf_0 (by decide) ?_
  refine s_lstoren dX3_effortOf_1 rfl (by decide) ?_
  refine s_lconst (v := 0) dX3_effortOf_2 (by decide) ?_
  refine s_lstore dX3_effortOf_3 (by decide) ?_
  refine s_iconst (v := 0) dX3_effortOf_5 (by decide) ?_
  refine s_istore dX3_effortOf_6 (by decide) ?_
  have LP_8 : ∀ (d k : Nat), k + d = w.n → Wp (Ev tm) tm M_X3_effortOf (Rt (some (.int (f_X3_effortOf w.n c kd))) S) 8 [(0, .ref w.th), (1, .int kd), (2, .long ((g_X3_effortOf c kd k).1)), (4, .long ((g_X3_effortOf c kd k).2)), (6, .int (nI k))] [] 0 0 S := by
    intro d
    induction d with
    | zero =>
      intro k hkd
      have hkn : k = w.n := by omega
      subst hkn
      refine s_iload dX3_effortOf_8 rfl ?_
      refine s_aloadn dX3_effortOf_10 rfl rfl ?_
      refine s_getR (n := 4) dX3_effortOf_11 rfl hW.th (fun _ _ _ => rfl) hW.ral ?_
      refine s_cv0R (n := 3) dX3_effortOf_14 rfl (kv hW.alK (by decide) rfl) rfl (by decide) (by decide) (by decide) (by decide) (Nat.le_of_ble_eq_true rfl) (m_size hW.lc) ?_
      refine s_icge (tgt := 67) dX3_effortOf_17 (by decide) (fun _ => ?_) (fun c => absurd (Int32.le_refl _) c)
      refine s_lloadn dX3_effortOf_67 rfl rfl ?_
      refine s_lconst (v := 0) dX3_effortOf_68 (by decide) ?_
      refine s_lcne (tgt := 77) dX3_effortOf_69 dX3_effortOf_70 (by decide) (fun c_69 => ?_) (fun c_69 => ?_)
      · skip
        refine s_ldc2 (v := 10000) dX3_effortOf_77 csl_RX3_146 ?_
        refine s_ldc2 (v := 10000) dX3_effortOf_80 csl_RX3_146 ?_
        refine s_lload dX3_effortOf_83 rfl ?_
        refine s_lmul dX3_effortOf_85 ?_
        refine s_lloadn dX3_effortOf_86 rfl rfl ?_
        refine s_cs2R (n := 1) dX3_effortOf_87 rfl rfl (by decide) (by decide) (by decide) (by decide) (Nat.le_of_ble_eq_true rfl) (m_X3_quotient) ?_
        refine s_lsub dX3_effortOf_90 ?_
        refine s_l2i dX3_effortOf_91 ?_
        exact s_reti dX3_effortOf_92 rfl rfl ⟨congrArg (fun z => Sum.inl (some (Value.int z))) (Eq.symm (by unfold f_X3_effortOf; rw [if_neg c_69])), rfl⟩
      · skip
        refine s_iconst (v := 0) dX3_effortOf_73 (by decide) ?_
        refine s_goto (tgt := 92) dX3_effortOf_74 (by decide) ?_
        exact s_reti dX3_effortOf_92 rfl rfl ⟨congrArg (fun z => Sum.inl (some (Value.int z))) (Eq.symm (by unfold f_X3_effortOf; rw [if_pos c_69])), rfl⟩
    | succ d ih =>
      intro k hkd
      have hlt : k < w.n := by omega
      refine s_iload dX3_effortOf_8 rfl ?_
      refine s_aloadn dX3_effortOf_10 rfl rfl ?_
      refine s_getR (n := 4) dX3_effortOf_11 rfl hW.th (fun _ _ _ => rfl) hW.ral ?_
      refine s_cv0R (n := 3) dX3_effortOf_14 rfl (kv hW.alK (by decide) rfl) rfl (by decide) (by decide) (by decide) (by decide) (Nat.le_of_ble_eq_true rfl) (m_size hW.lc) ?_
      refine s_icge (tgt := 67) dX3_effortOf_17 (by decide) (fun c => absurd c (nI_ge hlt (by omega))) (fun _ => ?_)
      refine s_aloadn dX3_effortOf_20 rfl rfl ?_
      refine s_getR (n := 4) dX3_effortOf_21 rfl hW.th (fun _ _ _ => rfl) hW.ral ?_
      refine s_iload dX3_effortOf_24 rfl ?_
      refine s_cv1R (n := 11) dX3_effortOf_26 rfl (kv hW.alK (by decide) rfl) rfl (by decide) (by decide) (by decide) (by decide) (Nat.le_of_ble_eq_true rfl) (m_get hW.lc hlt) ?_
      refine s_cast (n := 2) dX3_effortOf_29 rfl (hW.cK _ (Nat.lt_of_lt_of_le hlt hW.nm)) ?_
      refine s_astore dX3_effortOf_32 (by decide) ?_
      refine s_aload dX3_effortOf_34 rfl ?_
      refine s_get (v := .int (c.ci k 0)) (n := 19) dX3_effortOf_36 rfl (hW.cK _ (Nat.lt_of_lt_of_le hlt hW.nm)) (congrArg Value.int (congrFun (hW.ci _ (Nat.lt_of_lt_of_le hlt hW.nm)) 0)) ?_
      refine s_iloadn dX3_effortOf_39 rfl rfl ?_
      refine s_icne (tgt := 61) dX3_effortOf_40 (by decide) (fun c_40 => ?_) (fun c_40 => ?_)
      · skip
        refine s_iinc (v := (nI k) + 1) dX3_effortOf_61 rfl (by rfl) (by decide) ?_
        refine s_goto (tgt := 8) dX3_effortOf_64 (by decide) ?_
        exact s_sub (lo' := [(0, .ref w.th), (1, .int kd), (2, .long ((g_X3_effortOf c kd (k + 1)).1)), (4, .long ((g_X3_effortOf c kd (k + 1)).2)), (6, .int (nI (k + 1)))]) (List.forall_mem_cons.mpr ⟨rfl, List.forall_mem_cons.mpr ⟨rfl, List.forall_mem_cons.mpr ⟨congrArg (fun z => some (Value.long z)) (Eq.symm (by rw [g_X3_effortOf_s, if_neg c_40])), List.forall_mem_cons.mpr ⟨congrArg (fun z => some (Value.long z)) (Eq.symm (by rw [g_X3_effortOf_s, if_neg c_40])), List.forall_mem_cons.mpr ⟨congrArg (fun z => some (Value.int z)) (nI_1 k), fun _ h => absurd h List.not_mem_nil⟩⟩⟩⟩⟩) (Nat.zero_le _) (Nat.zero_le _) (ih (k + 1) (by omega))
      · skip
        refine s_lloadn dX3_effortOf_43 rfl rfl ?_
        refine s_aload dX3_effortOf_44 rfl ?_
        refine s_get (v := .long (c.cj k 13)) (n := 44) dX3_effortOf_46 rfl (hW.cK _ (Nat.lt_of_lt_of_le hlt hW.nm)) (congrArg Value.long (congrFun (hW.cj _ (Nat.lt_of_lt_of_le hlt hW.nm)) 13)) ?_
        refine s_ladd dX3_effortOf_49 ?_
        refine s_lstoren dX3_effortOf_50 rfl (by decide) ?_
        refine s_lload dX3_effortOf_51 rfl ?_
        refine s_aload dX3_effortOf_53 rfl ?_
        refine s_get (v := .long (c.cj k 14)) (n := 46) dX3_effortOf_55 rfl (hW.cK _ (Nat.lt_of_lt_of_le hlt hW.nm)) (congrArg Value.long (congrFun (hW.cj _ (Nat.lt_of_lt_of_le hlt hW.nm)) 14)) ?_
        refine s_ladd dX3_effortOf_58 ?_
        refine s_lstore dX3_effortOf_59 (by decide) ?_
        refine s_iinc (v := (nI k) + 1) dX3_effortOf_61 rfl (by rfl) (by decide) ?_
        refine s_goto (tgt := 8) dX3_effortOf_64 (by decide) ?_
        exact s_sub (lo' := [(0, .ref w.th), (1, .int kd), (2, .long ((g_X3_effortOf c kd (k + 1)).1)), (4, .long ((g_X3_effortOf c kd (k + 1)).2)), (6, .int (nI (k + 1)))]) (List.forall_mem_cons.mpr ⟨rfl, List.forall_mem_cons.mpr ⟨rfl, List.forall_mem_cons.mpr ⟨congrArg (fun z => some (Value.long z)) (Eq.symm (by rw [g_X3_effortOf_s, if_pos c_40])), List.forall_mem_cons.mpr ⟨congrArg (fun z => some (Value.long z)) (Eq.symm (by rw [g_X3_effortOf_s, if_pos c_40])), List.forall_mem_cons.mpr ⟨congrArg (fun z => some (Value.int z)) (nI_1 k), fun _ h => absurd h List.not_mem_nil⟩⟩⟩⟩⟩) (Nat.zero_le _) (Nat.zero_le _) (ih (k + 1) (by omega))
  exact s_sub (lo' := [(0, .ref w.th), (1, .int kd), (2, .long ((g_X3_effortOf c kd 0).1)), (4, .long ((g_X3_effortOf c kd 0).2)), (6, .int (nI 0))]) (List.forall_mem_cons.mpr ⟨rfl, List.forall_mem_cons.mpr ⟨rfl, List.forall_mem_cons.mpr ⟨rfl, List.forall_mem_cons.mpr ⟨rfl, List.forall_mem_cons.mpr ⟨rfl, fun _ h => absurd h List.not_mem_nil⟩⟩⟩⟩⟩) (Nat.zero_le _) (Nat.zero_le _) (LP_8 w.n 0 (by omega))
def g_X3_areAlike (n : Nat) (c : CC) : Nat → Int32
  | 0 => 1
  | k + 1 => if (g_X3_areAlike n c k) = 0 then 0 else (if (f_X3_wasSwapped n c (nI (k + 1))) = 0 then 1 else (if 200 < ((f_X3_effortOf n c 0) - (f_X3_effortOf n c (nI (k + 1)))) then 0 else 1))
theorem g_X3_areAlike_s {n : Nat} {c : CC} {k : Nat} : g_X3_areAlike n c (k + 1) = (if (g_X3_areAlike n c k) = 0 then 0 else (if (f_X3_wasSwapped n c (nI (k + 1))) = 0 then 1 else (if 200 < ((f_X3_effortOf n c 0) - (f_X3_effortOf n c (nI (k + 1)))) then 0 else 1)) : Int32) := rfl
theorem b_g_X3_areAlike {n : Nat} {c : CC} {k : Nat} : g_X3_areAlike n c k = 0 ∨ g_X3_areAlike n c k = 1 := by
  induction k with
  | zero => exact Or.inr rfl
  | succ k ih =>
    rw [g_X3_areAlike_s]
    repeat' split
    all_goals first | exact Or.inl rfl | exact Or.inr rfl | exact ih
def f_X3_areAlike (n : Nat) (c : CC) : Int32 := (g_X3_areAlike n c 4)
theorem b_X3_areAlike {n : Nat} {c : CC} : f_X3_areAlike n c = 0 ∨ f_X3_areAlike n c = 1 := by
  unfold f_X3_areAlike
  repeat' split
  all_goals first | exact b_g_X3_areAlike | exact Or.inl rfl | exact Or.inr rfl | exact Or.inl ‹_›
set_option maxHeartbeats 4000000 in
theorem m_X3_areAlike {tm : Nat × Nat} {S : Sto} {w : CAd} {c : CC}  (hW : CW tm S w c)  : Ev tm M_X3_areAlike [.ref w.th] S (Rt (some (.int (f_X3_areAlike w.n c))) S) := by
  have hF : FrC S S := FrC.rf
  refine ev_in ok_X3_areAlike (Nat.le_of_ble_eq_true rfl) ?_
  have hn40 := hW.n40
  refine s_iconst (v := 1) dX3_areAlike_0 (by decide) ?_
  refine s_istoren dX3_areAlike_1 rfl (by decide) ?_
  refine s_iconst (v := 1) dX3_areAlike_2 (by decide) ?_
  refine s_istoren dX3_areAlike_3 rfl (by decide) ?_
  have LP_4 : ∀ (d k : Nat), k + d = 4 → Wp (Ev tm) tm M_X3_areAlike (Rt (some (.int (f_X3_areAlike w.n c))) S) 4 [(0, .ref w.th), (1, .int (g_X3_areAlike w.n c k)), (2, .int (nI (k + 1)))] [] 0 0 S := by
    intro d
    induction d with
    | zero =>
      intro k hkd
      have hkn : k = 4 := by omega
      subst hkn
      refine s_iloadn dX3_areAlike_4 rfl rfl ?_
      refine s_iconst (v := 4) dX3_areAlike_5 (by decide) ?_
      refine s_icgt (tgt := 50) dX3_areAlike_6 (by decide) (fun _ => ?_) (fun c => absurd (show (4 : Int32) < nI (4 + 1) from by decide) c)
      refine s_iloadn dX3_areAlike_50 rfl rfl ?_
      exact s_reti dX3_areAlike_51 rfl (nr_bool b_g_X3_areAlike) ⟨congrArg (fun z => Sum.inl (some (Value.int z))) (Eq.symm (by unfold f_X3_areAlike; rfl)), rfl⟩
    | succ d ih =>
      intro k hkd
      have hlt : k < 4 := by omega
      refine s_iloadn dX3_areAlike_4 rfl rfl ?_
      refine s_iconst (v := 4) dX3_areAlike_5 (by decide) ?_
      refine s_icgt (tgt := 50) dX3_areAlike_6 (by decide) (fun c => absurd c (nI_nlt (a := 4) (b := k + 1) (by omega) (by decide))) (fun _ => ?_)
      refine s_iloadn dX3_areAlike_9 rfl rfl ?_
      refine s_ifeq (tgt := 42) dX3_areAlike_10 (by decide) (fun c_10 => ?_) (fun c_10 => ?_)
      · skip
        refine s_iconst (v := 0) dX3_areAlike_42 (by decide) ?_
        refine s_istoren dX3_areAlike_43 rfl (by decide) ?_
        refine s_iinc (v := (nI (k + 1)) + 1) dX3_areAlike_44 rfl (by rfl) (by decide) ?_
        refine s_goto (tgt := 4) dX3_areAlike_47 (by decide) ?_
        exact s_sub (lo' := [(0, .ref w.th), (1, .int (g_X3_areAlike w.n c (k + 1))), (2, .int (nI ((k + 1) + 1)))]) (List.forall_mem_cons.mpr ⟨rfl, List.forall_mem_cons.mpr ⟨congrArg (fun z => some (Value.int z)) (Eq.symm (by rw [g_X3_areAlike_s, if_pos c_10])), List.forall_mem_cons.mpr ⟨congrArg (fun z => some (Value.int z)) (nI_1 (k + 1)), fun _ h => absurd h List.not_mem_nil⟩⟩⟩) (Nat.zero_le _) (Nat.zero_le _) (ih (k + 1) (by omega))
      · skip
        refine s_aloadn dX3_areAlike_13 rfl rfl ?_
        refine s_iloadn dX3_areAlike_14 rfl rfl ?_
        refine s_cv1R (n := 47) dX3_areAlike_15 rfl (kv hW.th (by decide) rfl) rfl (by decide) (by decide) (by decide) (by decide) (Nat.le_of_ble_eq_true rfl) (m_X3_wasSwapped hW ) ?_
        refine s_ifeq (tgt := 38) dX3_areAlike_18 (by decide) (fun c_18 => ?_) (fun c_18 => ?_)
        · skip
          refine s_iconst (v := 1) dX3_areAlike_38 (by decide) ?_
          refine s_goto (tgt := 43) dX3_areAlike_39 (by decide) ?_
          refine s_istoren dX3_areAlike_43 rfl (by decide) ?_
          refine s_iinc (v := (nI (k + 1)) + 1) dX3_areAlike_44 rfl (by rfl) (by decide) ?_
          refine s_goto (tgt := 4) dX3_areAlike_47 (by decide) ?_
          exact s_sub (lo' := [(0, .ref w.th), (1, .int (g_X3_areAlike w.n c (k + 1))), (2, .int (nI ((k + 1) + 1)))]) (List.forall_mem_cons.mpr ⟨rfl, List.forall_mem_cons.mpr ⟨congrArg (fun z => some (Value.int z)) (Eq.symm (by rw [g_X3_areAlike_s, if_neg c_10, if_pos c_18])), List.forall_mem_cons.mpr ⟨congrArg (fun z => some (Value.int z)) (nI_1 (k + 1)), fun _ h => absurd h List.not_mem_nil⟩⟩⟩) (Nat.zero_le _) (Nat.zero_le _) (ih (k + 1) (by omega))
        · skip
          refine s_aloadn dX3_areAlike_21 rfl rfl ?_
          refine s_iconst (v := 0) dX3_areAlike_22 (by decide) ?_
          refine s_cv1R (n := 46) dX3_areAlike_23 rfl (kv hW.th (by decide) rfl) rfl (by decide) (by decide) (by decide) (by decide) (Nat.le_of_ble_eq_true rfl) (m_X3_effortOf hW ) ?_
          refine s_aloadn dX3_areAlike_26 rfl rfl ?_
          refine s_iloadn dX3_areAlike_27 rfl rfl ?_
          refine s_cv1R (n := 46) dX3_areAlike_28 rfl (kv hW.th (by decide) rfl) rfl (by decide) (by decide) (by decide) (by decide) (Nat.le_of_ble_eq_true rfl) (m_X3_effortOf hW ) ?_
          refine s_isub dX3_areAlike_31 ?_
          refine s_sipush (v := 200) dX3_areAlike_32 (by decide) ?_
          refine s_icgt (tgt := 42) dX3_areAlike_35 (by decide) (fun c_35 => ?_) (fun c_35 => ?_)
          · skip
            refine s_iconst (v := 0) dX3_areAlike_42 (by decide) ?_
            refine s_istoren dX3_areAlike_43 rfl (by decide) ?_
            refine s_iinc (v := (nI (k + 1)) + 1) dX3_areAlike_44 rfl (by rfl) (by decide) ?_
            refine s_goto (tgt := 4) dX3_areAlike_47 (by decide) ?_
            exact s_sub (lo' := [(0, .ref w.th), (1, .int (g_X3_areAlike w.n c (k + 1))), (2, .int (nI ((k + 1) + 1)))]) (List.forall_mem_cons.mpr ⟨rfl, List.forall_mem_cons.mpr ⟨congrArg (fun z => some (Value.int z)) (Eq.symm (by rw [g_X3_areAlike_s, if_neg c_10, if_neg c_18, if_pos c_35])), List.forall_mem_cons.mpr ⟨congrArg (fun z => some (Value.int z)) (nI_1 (k + 1)), fun _ h => absurd h List.not_mem_nil⟩⟩⟩) (Nat.zero_le _) (Nat.zero_le _) (ih (k + 1) (by omega))
          · skip
            refine s_iconst (v := 1) dX3_areAlike_38 (by decide) ?_
            refine s_goto (tgt := 43) dX3_areAlike_39 (by decide) ?_
            refine s_istoren dX3_areAlike_43 rfl (by decide) ?_
            refine s_iinc (v := (nI (k + 1)) + 1) dX3_areAlike_44 rfl (by rfl) (by decide) ?_
            refine s_goto (tgt := 4) dX3_areAlike_47 (by decide) ?_
            exact s_sub (lo' := [(0, .ref w.th), (1, .int (g_X3_areAlike w.n c (k + 1))), (2, .int (nI ((k + 1) + 1)))]) (List.forall_mem_cons.mpr ⟨rfl, List.forall_mem_cons.mpr ⟨congrArg (fun z => some (Value.int z)) (Eq.symm (by rw [g_X3_areAlike_s, if_neg c_10, if_neg c_18, if_neg c_35])), List.forall_mem_cons.mpr ⟨congrArg (fun z => some (Value.int z)) (nI_1 (k + 1)), fun _ h => absurd h List.not_mem_nil⟩⟩⟩) (Nat.zero_le _) (Nat.zero_le _) (ih (k + 1) (by omega))
  exact s_sub (lo' := [(0, .ref w.th), (1, .int (g_X3_areAlike w.n c 0)), (2, .int (nI (0 + 1)))]) (List.forall_mem_cons.mpr ⟨rfl, List.forall_mem_cons.mpr ⟨rfl, List.forall_mem_cons.mpr ⟨rfl, fun _ h => absurd h List.not_mem_nil⟩⟩⟩) (Nat.zero_le _) (Nat.zero_le _) (LP_4 4 0 (by omega))
