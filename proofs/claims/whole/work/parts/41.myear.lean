/-! THE PROGRAM, 22: the model's year, areAlike, isBearable -/
def g_X4_year (n : Nat) (c : MC) : Nat → Int64 × MC
  | 0 => (0, (c.pti 0 0))
  | k + 1 => (((g_X4_year n c k).1) + ((f_X4_goesBy n (g_X4_year n c k).2).1), (f_X4_goesBy n (g_X4_year n c k).2).2)
theorem g_X4_year_s {n : Nat} {c : MC} {k : Nat} : g_X4_year n c (k + 1) = ((((g_X4_year n c k).1) + ((f_X4_goesBy n (g_X4_year n c k).2).1), (f_X4_goesBy n (g_X4_year n c k).2).2) : Int64 × MC) := rfl
theorem gy7 {n : Nat} {c : MC} {k : Nat} : (g_X4_year n c k).2.ti 7 = c.ti 7 := by
  induction k with
  | zero => rfl
  | succ k ih =>
    rw [g_X4_year_s]
    exact Eq.trans (g7b (n := n) (k := 3 * n)) ih
theorem gy8 {n : Nat} {c : MC} {k : Nat} : (g_X4_year n c k).2.ai 8 = c.ai 8 := by
  induction k with
  | zero => rfl
  | succ k ih =>
    rw [g_X4_year_s]
    exact Eq.trans (g8b (n := n) (k := 3 * n)) ih
def f_X4_year (n : Nat) (c : MC) (y : Int32) : Int64 × MC := if (f_X4_isIn y 1 10) = 0 then (0, (c.pti 0 1)) else (if ((c.ti 1) + y) ≤ 60 then ((g_X4_year n c (ix y)).1, (g_X4_year n c (ix y)).2) else (0, (c.pti 0 2)))
set_option maxHeartbeats 4000000 in
theorem m_X4_year {tm : Nat × Nat} {S : Sto} {w : MAd} {c : MC} {n : Nat} {y : Int32} (hW : MW S w c) (hcl : c.ti 7 = nI n) (hn : n ≤ 40) (hKs : ∀ i, i < n → inr (c.ai 8 i) 5)  : Ev tm M_X4_year [.ref w.mm, .int y] S (NJ w S (f_X4_year n c y)) := by
  have hF : FrM S S := FrM.rf
  refine ev_in ok_X4_year (Nat.le_of_ble_eq_true rfl) ?_
  refine s_aloadn dX4_year_0 rfl rfl ?_
  refine s_iloadn dX4_year_1 rfl rfl ?_
  refine s_iconst (v := 1) dX4_year_2 (by decide) ?_
  refine s_bipush (v := 10) dX4_year_3 (by decide) ?_
  refine s_cs3R (n := 23) dX4_year_5 rfl rfl (by decide) (by decide) (by decide) (by decide) (Nat.le_of_ble_eq_true rfl) (m_X4_isIn) ?_
  refine s_ifne (tgt := 15) dX4_year_8 (by decide) (fun c_8 => ?_) (fun c_8 => ?_)
  · skip
    refine s_aloadn dX4_year_15 rfl rfl ?_
    refine s_get (v := .int (c.ti 1)) (n := 62) dX4_year_16 rfl hW.mm (congrArg Value.int (congrFun hW.ti 1)) ?_
    refine s_iloadn dX4_year_19 rfl rfl ?_
    refine s_iadd dX4_year_20 ?_
    refine s_bipush (v := 60) dX4_year_21 (by decide) ?_
    refine s_icle (tgt := 30) dX4_year_23 (by decide) (fun c_23 => ?_) (fun c_23 => ?_)
    · skip
      refine s_iconst (v := 0) dX4_year_30 (by decide) ?_
      refine s_cv1G (n := 49) dX4_year_31 rfl (kv hW.mm (by decide) rfl) rfl (by decide) (by decide) (by decide) (by decide) (Nat.le_of_ble_eq_true rfl) (m_holds0 hW) (fun r1 S1 hr1 => ?_) (fun x S2 hr => by obtain ⟨e, -⟩ := hr; cases e)
      obtain ⟨e1, hW1, hG1⟩ := hr1
      cases e1
      have hF1 := hF.tr hG1
      refine s_ifne (tgt := 39) dX4_year_34 (by decide) (fun _ => ?_) (fun c => absurd c (by decide))
      refine s_lconst (v := 0) dX4_year_39 (by decide) ?_
      refine s_lstoren dX4_year_40 rfl (by decide) ?_
      refine s_iconst (v := 0) dX4_year_41 (by decide) ?_
      refine s_istore dX4_year_42 (by decide) ?_
      have LP_44 : ∀ (d k : Nat), k + d = (ix y) → ∀ (S1 : Sto), MW S1 w ((g_X4_year n c k).2) → FrM S S1 → Wp (Ev tm) tm M_X4_year (NJ w S (f_X4_year n c y)) 44 [(0, .ref w.mm), (1, .int y), (2, .long ((g_X4_year n c k).1)), (4, .int (nI k))] [] 0 0 S1 := by
        intro d
        induction d with
        | zero =>
          intro k hkd S1 hW1 hF1
          have hkn : (ix y) = k := by omega
          subst hkn
          refine s_iload dX4_year_44 rfl ?_
          refine s_iloadn dX4_year_46 rfl rfl ?_
          refine s_icge (tgt := 63) dX4_year_47 (by decide) (fun _ => ?_) (fun c => absurd (ixz (isI c_8)) c)
          refine s_lloadn dX4_year_63 rfl rfl ?_
          exact s_retl dX4_year_64 rfl (NJ.of (F := f_X4_year n c y) (x := (g_X4_year n c (ix y)).1) (by unfold f_X4_year; rw [if_neg c_8, if_pos c_23]) hW1 hF1)
        | succ d ih =>
          intro k hkd S1 hW1 hF1
          have hlt : k < (ix y) := by omega
          refine s_iload dX4_year_44 rfl ?_
          refine s_iloadn dX4_year_46 rfl rfl ?_
          refine s_icge (tgt := 63) dX4_year_47 (by decide) (fun c => absurd c (ixm (isI c_8) hlt)) (fun _ => ?_)
          refine s_lloadn dX4_year_50 rfl rfl ?_
          refine s_aloadn dX4_year_51 rfl rfl ?_
          refine s_cv0G (n := 57) dX4_year_52 rfl (kv hW1.mm (by decide) rfl) rfl (by decide) (by decide) (by decide) (by decide) (Nat.le_of_ble_eq_true rfl) (m_X4_goesBy hW1 (by first | exact hcl | exact gy7.trans hcl) hn (by first | exact hKs | (rw [gy8]; exact hKs))) (fun r3 S3 hr3 => ?_) (fun x S2 hr => by obtain ⟨e, -⟩ := hr; cases e)
          obtain ⟨e3, hW3, hG3⟩ := hr3
          cases e3
          have hF3 := hF1.tr hG3
          refine s_ladd dX4_year_55 ?_
          refine s_lstoren dX4_year_56 rfl (by decide) ?_
          refine s_iinc (v := (nI k) + 1) dX4_year_57 rfl (by rfl) (by decide) ?_
          refine s_goto (tgt := 44) dX4_year_60 (by decide) ?_
          exact s_sub (lo' := [(0, .ref w.mm), (1, .int y), (2, .long ((g_X4_year n c (k + 1)).1)), (4, .int (nI (k + 1)))]) (List.forall_mem_cons.mpr ⟨rfl, List.forall_mem_cons.mpr ⟨rfl, List.forall_mem_cons.mpr ⟨congrArg (fun z => some (Value.long z)) (Eq.symm (by rw [g_X4_year_s])), List.forall_mem_cons.mpr ⟨congrArg (fun z => some (Value.int z)) (nI_1 k), fun _ h => absurd h List.not_mem_nil⟩⟩⟩⟩) (Nat.zero_le _) (Nat.zero_le _) (ih (k + 1) (by omega) S3 (by rw [g_X4_year_s]; exact hW3) hF3)
      exact s_sub (lo' := [(0, .ref w.mm), (1, .int y), (2, .long ((g_X4_year n c 0).1)), (4, .int (nI 0))]) (List.forall_mem_cons.mpr ⟨rfl, List.forall_mem_cons.mpr ⟨rfl, List.forall_mem_cons.mpr ⟨rfl, List.forall_mem_cons.mpr ⟨rfl, fun _ h => absurd h List.not_mem_nil⟩⟩⟩⟩) (Nat.zero_le _) (Nat.zero_le _) (LP_44 (ix y) 0 (by omega) S1 hW1 hF1)
    · skip
      refine s_iconst (v := 2) dX4_year_26 (by decide) ?_
      refine s_goto (tgt := 31) dX4_year_27 (by decide) ?_
      refine s_cv1G (n := 49) dX4_year_31 rfl (kv hW.mm (by decide) rfl) rfl (by decide) (by decide) (by decide) (by decide) (Nat.le_of_ble_eq_true rfl) (m_holdsP (p := 2) hW (by decide)) (fun r4 S4 hr4 => ?_) (fun x S2 hr => by obtain ⟨e, -⟩ := hr; cases e)
      obtain ⟨e4, hW4, hG4⟩ := hr4
      cases e4
      have hF4 := hF.tr hG4
      refine s_ifne (tgt := 39) dX4_year_34 (by decide) (fun c => absurd c (by decide)) (fun _ => ?_)
      refine s_lconst (v := 0) dX4_year_37 (by decide) ?_
      exact s_retl dX4_year_38 rfl (NJ.of (F := f_X4_year n c y) (x := 0) (by unfold f_X4_year; rw [if_neg c_8, if_neg c_23]) hW4 hF4)
  · skip
    refine s_iconst (v := 1) dX4_year_11 (by decide) ?_
    refine s_goto (tgt := 31) dX4_year_12 (by decide) ?_
    refine s_cv1G (n := 49) dX4_year_31 rfl (kv hW.mm (by decide) rfl) rfl (by decide) (by decide) (by decide) (by decide) (Nat.le_of_ble_eq_true rfl) (m_holdsP (p := 1) hW (by decide)) (fun r5 S5 hr5 => ?_) (fun x S2 hr => by obtain ⟨e, -⟩ := hr; cases e)
    obtain ⟨e5, hW5, hG5⟩ := hr5
    cases e5
    have hF5 := hF.tr hG5
    refine s_ifne (tgt := 39) dX4_year_34 (by decide) (fun c => absurd c (by decide)) (fun _ => ?_)
    refine s_lconst (v := 0) dX4_year_37 (by decide) ?_
    exact s_retl dX4_year_38 rfl (NJ.of (F := f_X4_year n c y) (x := 0) (by unfold f_X4_year; rw [if_pos c_8]) hW5 hF5)
def g_X4_areAlike (c : MC) : Nat → Int32
  | 0 => 1
  | k + 1 => if (g_X4_areAlike c k) = 0 then 0 else (if (c.ai 28 (k + 1)) = 0 then 1 else (if 200 < ((f_X4_effortOf (c.pti 0 0) 0) - (f_X4_effortOf (c.pti 0 0) (k + 1))) then 0 else 1))
theorem g_X4_areAlike_s {c : MC} {k : Nat} : g_X4_areAlike c (k + 1) = (if (g_X4_areAlike c k) = 0 then 0 else (if (c.ai 28 (k + 1)) = 0 then 1 else (if 200 < ((f_X4_effortOf (c.pti 0 0) 0) - (f_X4_effortOf (c.pti 0 0) (k + 1))) then 0 else 1)) : Int32) := rfl
theorem b_g_X4_areAlike {c : MC} {k : Nat} : g_X4_areAlike c k = 0 ∨ g_X4_areAlike c k = 1 := by
  induction k with
  | zero => exact Or.inr rfl
  | succ k ih =>
    rw [g_X4_areAlike_s]
    repeat' split
    all_goals first | exact Or.inl rfl | exact Or.inr rfl | exact ih
def f_X4_areAlike (c : MC) : Int32 × MC := ((g_X4_areAlike c 4), (c.pti 0 0))
set_option maxHeartbeats 4000000 in
theorem m_X4_areAlike {tm : Nat × Nat} {S : Sto} {w : MAd} {c : MC}  (hW : MW S w c)   : Ev tm M_X4_areAlike [.ref w.mm] S (NI w S (f_X4_areAlike c)) := by
  have hF : FrM S S := FrM.rf
  refine ev_in ok_X4_areAlike (Nat.le_of_ble_eq_true rfl) ?_
  refine s_aloadn dX4_areAlike_0 rfl rfl ?_
  refine s_iconst (v := 0) dX4_areAlike_1 (by decide) ?_
  refine s_putI (n := 61) dX4_areAlike_2 rfl hW.mm (Or.inl rfl) (fun _ _ _ => rfl) rfl rfl ?_
  have hW1 := hW.pti (k := 0) (v := 0)
  have hF1 := hF.uI (a := w.mm) (k := 0) (v := 0) (kd := 5) hW.mm (by decide)
  refine s_iconst (v := 1) dX4_areAlike_5 (by decide) ?_
  refine s_istoren dX4_areAlike_6 rfl (by decide) ?_
  refine s_iconst (v := 1) dX4_areAlike_7 (by decide) ?_
  refine s_istoren dX4_areAlike_8 rfl (by decide) ?_
  have LP_9 : ∀ (d k : Nat), k + d = 4 → Wp (Ev tm) tm M_X4_areAlike (NI w S (f_X4_areAlike c)) 9 [(0, .ref w.mm), (1, .int (g_X4_areAlike c k)), (2, .int (nI (k + 1)))] [] 0 0 (uI S w.mm 0 0) := by
    intro d
    induction d with
    | zero =>
      intro k hkd
      have hkn : 4 = k := by omega
      subst hkn
      refine s_iloadn dX4_areAlike_9 rfl rfl ?_
      refine s_iconst (v := 5) dX4_areAlike_10 (by decide) ?_
      refine s_icge (tgt := 56) dX4_areAlike_11 (by decide) (fun _ => ?_) (fun c => absurd (show (5 : Int32) ≤ nI (4 + 1) from by decide) c)
      refine s_iloadn dX4_areAlike_56 rfl rfl ?_
      exact s_reti dX4_areAlike_57 rfl (nr_bool b_g_X4_areAlike) (NI.of (F := f_X4_areAlike c) (x := (g_X4_areAlike c 4)) (by unfold f_X4_areAlike; rfl) hW1 hF1)
    | succ d ih =>
      intro k hkd
      have hlt : k < 4 := by omega
      refine s_iloadn dX4_areAlike_9 rfl rfl ?_
      refine s_iconst (v := 5) dX4_areAlike_10 (by decide) ?_
      refine s_icge (tgt := 56) dX4_areAlike_11 (by decide) (fun c => absurd c (nI_ge (b := 5) (show k + 1 < 5 by omega) (by decide))) (fun _ => ?_)
      refine s_iloadn dX4_areAlike_14 rfl rfl ?_
      refine s_ifeq (tgt := 48) dX4_areAlike_15 (by decide) (fun c_15 => ?_) (fun c_15 => ?_)
      · skip
        refine s_iconst (v := 0) dX4_areAlike_48 (by decide) ?_
        refine s_istoren dX4_areAlike_49 rfl (by decide) ?_
        refine s_iinc (v := (nI (k + 1)) + 1) dX4_areAlike_50 rfl (by rfl) (by decide) ?_
        refine s_goto (tgt := 9) dX4_areAlike_53 (by decide) ?_
        exact s_sub (lo' := [(0, .ref w.mm), (1, .int (g_X4_areAlike c (k + 1))), (2, .int (nI ((k + 1) + 1)))]) (List.forall_mem_cons.mpr ⟨rfl, List.forall_mem_cons.mpr ⟨congrArg (fun z => some (Value.int z)) (Eq.symm (by rw [g_X4_areAlike_s, if_pos c_15])), List.forall_mem_cons.mpr ⟨congrArg (fun z => some (Value.int z)) (nI_1 (k + 1)), fun _ h => absurd h List.not_mem_nil⟩⟩⟩) (Nat.zero_le _) (Nat.zero_le _) (ih (k + 1) (by omega))
      · skip
        refine s_aloadn dX4_areAlike_18 rfl rfl ?_
        refine s_getR (n := 89) dX4_areAlike_19 rfl hW1.mm (fun _ _ _ => rfl) (hW1.rr 28 (by decide)).1 ?_
        refine s_iloadn dX4_areAlike_22 rfl rfl ?_
        refine s_zald' (j := (k + 1)) dX4_areAlike_23 ((hW1.rr 28 (by decide)).2.1) rfl (by rw [(hW1.rr 28 (by decide)).2.2]; exact (show k + 1 < 5 by omega)) (by rw [(hW1.rr 28 (by decide)).2.2]; decide) ?_
        rw [hW1.ai 28 (by decide)]
        refine s_ifeq (tgt := 44) dX4_areAlike_24 (by decide) (fun c_24 => ?_) (fun c_24 => ?_)
        · skip
          refine s_iconst (v := 1) dX4_areAlike_44 (by decide) ?_
          refine s_goto (tgt := 49) dX4_areAlike_45 (by decide) ?_
          refine s_istoren dX4_areAlike_49 rfl (by decide) ?_
          refine s_iinc (v := (nI (k + 1)) + 1) dX4_areAlike_50 rfl (by rfl) (by decide) ?_
          refine s_goto (tgt := 9) dX4_areAlike_53 (by decide) ?_
          exact s_sub (lo' := [(0, .ref w.mm), (1, .int (g_X4_areAlike c (k + 1))), (2, .int (nI ((k + 1) + 1)))]) (List.forall_mem_cons.mpr ⟨rfl, List.forall_mem_cons.mpr ⟨congrArg (fun z => some (Value.int z)) (Eq.symm (by rw [g_X4_areAlike_s, if_neg c_15, if_pos c_24])), List.forall_mem_cons.mpr ⟨congrArg (fun z => some (Value.int z)) (nI_1 (k + 1)), fun _ h => absurd h List.not_mem_nil⟩⟩⟩) (Nat.zero_le _) (Nat.zero_le _) (ih (k + 1) (by omega))
        · skip
          refine s_aloadn dX4_areAlike_27 rfl rfl ?_
          refine s_iconst (v := 0) dX4_areAlike_28 (by decide) ?_
          refine s_cv1R (n := 71) dX4_areAlike_29 rfl (kv hW1.mm (by decide) rfl) rfl (by decide) (by decide) (by decide) (by decide) (Nat.le_of_ble_eq_true rfl) (m_X4_effortOf hW1 (by decide)) ?_
          refine s_aloadn dX4_areAlike_32 rfl rfl ?_
          refine s_iloadn dX4_areAlike_33 rfl rfl ?_
          refine s_cv1R (n := 71) dX4_areAlike_34 rfl (kv hW1.mm (by decide) rfl) rfl (by decide) (by decide) (by decide) (by decide) (Nat.le_of_ble_eq_true rfl) (m_X4_effortOf hW1 (show k + 1 < 5 by omega)) ?_
          refine s_isub dX4_areAlike_37 ?_
          refine s_sipush (v := 200) dX4_areAlike_38 (by decide) ?_
          refine s_icgt (tgt := 48) dX4_areAlike_41 (by decide) (fun c_41 => ?_) (fun c_41 => ?_)
          · skip
            refine s_iconst (v := 0) dX4_areAlike_48 (by decide) ?_
            refine s_istoren dX4_areAlike_49 rfl (by decide) ?_
            refine s_iinc (v := (nI (k + 1)) + 1) dX4_areAlike_50 rfl (by rfl) (by decide) ?_
            refine s_goto (tgt := 9) dX4_areAlike_53 (by decide) ?_
            exact s_sub (lo' := [(0, .ref w.mm), (1, .int (g_X4_areAlike c (k + 1))), (2, .int (nI ((k + 1) + 1)))]) (List.forall_mem_cons.mpr ⟨rfl, List.forall_mem_cons.mpr ⟨congrArg (fun z => some (Value.int z)) (Eq.symm (by rw [g_X4_areAlike_s, if_neg c_15, if_neg c_24, if_pos c_41])), List.forall_mem_cons.mpr ⟨congrArg (fun z => some (Value.int z)) (nI_1 (k + 1)), fun _ h => absurd h List.not_mem_nil⟩⟩⟩) (Nat.zero_le _) (Nat.zero_le _) (ih (k + 1) (by omega))
          · skip
            refine s_iconst (v := 1) dX4_areAlike_44 (by decide) ?_
            refine s_goto (tgt := 49) dX4_areAlike_45 (by decide) ?_
            refine s_istoren dX4_areAlike_49 rfl (by decide) ?_
            refine s_iinc (v := (nI (k + 1)) + 1) dX4_areAlike_50 rfl (by rfl) (by decide) ?_
            refine s_goto (tgt := 9) dX4_areAlike_53 (by decide) ?_
            exact s_sub (lo' := [(0, .ref w.mm), (1, .int (g_X4_areAlike c (k + 1))), (2, .int (nI ((k + 1) + 1)))]) (List.forall_mem_cons.mpr ⟨rfl, List.forall_mem_cons.mpr ⟨congrArg (fun z => some (Value.int z)) (Eq.symm (by rw [g_X4_areAlike_s, if_neg c_15, if_neg c_24, if_neg c_41])), List.forall_mem_cons.mpr ⟨congrArg (fun z => some (Value.int z)) (nI_1 (k + 1)), fun _ h => absurd h List.not_mem_nil⟩⟩⟩) (Nat.zero_le _) (Nat.zero_le _) (ih (k + 1) (by omega))
  exact s_sub (lo' := [(0, .ref w.mm), (1, .int (g_X4_areAlike c 0)), (2, .int (nI (0 + 1)))]) (List.forall_mem_cons.mpr ⟨rfl, List.forall_mem_cons.mpr ⟨rfl, List.forall_mem_cons.mpr ⟨rfl, fun _ h => absurd h List.not_mem_nil⟩⟩⟩) (Nat.zero_le _) (Nat.zero_le _) (LP_9 4 0 (by omega))