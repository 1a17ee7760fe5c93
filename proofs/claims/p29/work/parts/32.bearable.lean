/-! THE PROGRAM, 13: isBearable, the constructor, settle -/
def e_X3_isBearable (n : Nat) (c : CC) : Nat → Int64 → Int64 → Int32
  | 0, o, m => if (f_X3_burden (f_X3_debt n c) (c.tj 5)) < (f_X3_burden o m) then 0 else 1
  | d + 1, o, m => if ((f_J9_max_f86c9 ((o + (f_X3_quotient (o * (((c.ti 8) : Int32).toInt64)) 10000)) - (f_X3_broughtBy  c m)) 0) * 100) ≤ ((f_X3_grown  c m) * 120) then e_X3_isBearable n c d (f_J9_max_f86c9 ((o + (f_X3_quotient (o * (((c.ti 8) : Int32).toInt64)) 10000)) - (f_X3_broughtBy  c m)) 0) (f_X3_grown  c m) else 0
theorem e_X3_isBearable_0 {n : Nat} {c : CC} {o m : Int64} : e_X3_isBearable n c 0 o m = (if (f_X3_burden (f_X3_debt n c) (c.tj 5)) < (f_X3_burden o m) then 0 else 1 : Int32) := rfl
theorem e_X3_isBearable_s {n : Nat} {c : CC} {o m : Int64} {d : Nat} : e_X3_isBearable n c (d + 1) o m = (if ((f_J9_max_f86c9 ((o + (f_X3_quotient (o * (((c.ti 8) : Int32).toInt64)) 10000)) - (f_X3_broughtBy  c m)) 0) * 100) ≤ ((f_X3_grown  c m) * 120) then e_X3_isBearable n c d (f_J9_max_f86c9 ((o + (f_X3_quotient (o * (((c.ti 8) : Int32).toInt64)) 10000)) - (f_X3_broughtBy  c m)) 0) (f_X3_grown  c m) else 0 : Int32) := rfl
def f_X3_isBearable (n : Nat) (c : CC) (ys : Int32) : Out × CC := if rng ys 1 30 then (.inl (some (.int (e_X3_isBearable n c (ix ys) (f_X3_debt n c) (c.tj 5)))), c) else (.inr 1, c)
set_option maxHeartbeats 4000000 in
theorem m_X3_isBearable {tm : Nat × Nat} {S : Sto} {w : CAd} {c : CC} {ys : Int32} (hW : CW tm S w c) : Ev tm M_X3_isBearable [.ref w.th, .int ys] S (PO tm w S (f_X3_isBearable w.n c ys)) := by
  have hF : FrC S S := FrC.rf
  have hn40 := hW.n40
  refine ev_in ok_X3_isBearable (Nat.le_of_ble_eq_true rfl) ?_
  refine s_iloadn dX3_isBearable_0 rfl rfl ?_
  refine s_iconst (v := 1) dX3_isBearable_1 (by decide) ?_
  refine s_bipush (v := 30) dX3_isBearable_2 (by decide) ?_
  by_cases r_4 : rng ys 1 30
  · refine s_cs3V (n := 11) dX3_isBearable_4 rfl rfl (by decide) (by decide) (by decide) (by decide) (Nat.le_of_ble_eq_true rfl) (m_needRange_ok r_4) ?_
    refine s_aloadn dX3_isBearable_7 rfl rfl ?_
    refine s_cv0R (n := 16) dX3_isBearable_8 rfl (kv hW.th (by decide) rfl) rfl (by decide) (by decide) (by decide) (by decide) (Nat.le_of_ble_eq_true rfl) (m_X3_debt hW ) ?_
    refine s_lstoren dX3_isBearable_11 rfl (by decide) ?_
    refine s_aloadn dX3_isBearable_12 rfl rfl ?_
    refine s_get (v := .long (c.tj 5)) (n := 9) dX3_isBearable_13 rfl hW.th (congrArg Value.long (congrFun hW.tj 5)) ?_
    refine s_lstore dX3_isBearable_16 (by decide) ?_
    refine s_iconst (v := 0) dX3_isBearable_18 (by decide) ?_
    refine s_istore dX3_isBearable_19 (by decide) ?_
    have LP : ∀ (d k : Nat) (o m : Int64), k + d = ix ys → e_X3_isBearable w.n c d o m = e_X3_isBearable w.n c (ix ys) (f_X3_debt w.n c) (c.tj 5) → Wp (Ev tm) tm M_X3_isBearable (PO tm w S (f_X3_isBearable w.n c ys)) 21 [(0, .ref w.th), (1, .int ys), (2, .long o), (4, .long m), (6, .int (nI k))] [] 0 0 S := by
      intro d
      induction d with
      | zero =>
        intro k o m hkd he
        have hkn : k = ix ys := by omega
        subst hkn
        refine s_iload dX3_isBearable_21 rfl ?_
        refine s_iloadn dX3_isBearable_23 rfl rfl ?_
        refine s_icge (tgt := 89) dX3_isBearable_24 (by decide) (fun _ => ?_) (fun c => absurd (ixz r_4) c)
        refine s_lloadn dX3_isBearable_89 rfl rfl ?_
        refine s_lload dX3_isBearable_90 rfl ?_
        refine s_cs2R (n := 22) dX3_isBearable_92 rfl rfl (by decide) (by decide) (by decide) (by decide) (Nat.le_of_ble_eq_true rfl) (m_X3_burden) ?_
        refine s_aloadn dX3_isBearable_95 rfl rfl ?_
        refine s_cv0R (n := 16) dX3_isBearable_96 rfl (kv hW.th (by decide) rfl) rfl (by decide) (by decide) (by decide) (by decide) (Nat.le_of_ble_eq_true rfl) (m_X3_debt hW ) ?_
        refine s_aloadn dX3_isBearable_99 rfl rfl ?_
        refine s_get (v := .long (c.tj 5)) (n := 9) dX3_isBearable_100 rfl hW.th (congrArg Value.long (congrFun hW.tj 5)) ?_
        refine s_cs2R (n := 22) dX3_isBearable_103 rfl rfl (by decide) (by decide) (by decide) (by decide) (Nat.le_of_ble_eq_true rfl) (m_X3_burden) ?_
        refine s_lcgt (tgt := 114) dX3_isBearable_106 dX3_isBearable_107 (by decide) (fun c_106 => ?_) (fun c_106 => ?_)
        · skip
          refine s_iconst (v := 0) dX3_isBearable_114 (by decide) ?_
          exact s_reti dX3_isBearable_115 rfl (nr_bool (by decide)) (PO.of (F := f_X3_isBearable w.n c ys) (x := .inl (some (.int 0))) (by unfold f_X3_isBearable; rw [if_pos r_4, ← he, e_X3_isBearable_0, if_pos c_106]) hW hF)
        · skip
          refine s_iconst (v := 1) dX3_isBearable_110 (by decide) ?_
          refine s_goto (tgt := 115) dX3_isBearable_111 (by decide) ?_
          exact s_reti dX3_isBearable_115 rfl (nr_bool (by decide)) (PO.of (F := f_X3_isBearable w.n c ys) (x := .inl (some (.int 1))) (by unfold f_X3_isBearable; rw [if_pos r_4, ← he, e_X3_isBearable_0, if_neg c_106]) hW hF)
      | succ d ih =>
        intro k o m hkd he
        have hlt : k < ix ys := by omega
        refine s_iload dX3_isBearable_21 rfl ?_
        refine s_iloadn dX3_isBearable_23 rfl rfl ?_
        refine s_icge (tgt := 89) dX3_isBearable_24 (by decide) (fun c => absurd c (ixm r_4 hlt)) (fun _ => ?_)
        refine s_lloadn dX3_isBearable_27 rfl rfl ?_
        refine s_aloadn dX3_isBearable_28 rfl rfl ?_
        refine s_get (v := .int (c.ti 8)) (n := 12) dX3_isBearable_29 rfl hW.th (congrArg Value.int (congrFun hW.ti 8)) ?_
        refine s_i2l dX3_isBearable_32 ?_
        refine s_lmul dX3_isBearable_33 ?_
        refine s_ldc2 (v := 10000) dX3_isBearable_34 csl_RX3_146 ?_
        refine s_cs2R (n := 1) dX3_isBearable_37 rfl rfl (by decide) (by decide) (by decide) (by decide) (Nat.le_of_ble_eq_true rfl) (m_X3_quotient) ?_
        refine s_lstore dX3_isBearable_40 (by decide) ?_
        refine s_lloadn dX3_isBearable_42 rfl rfl ?_
        refine s_lload dX3_isBearable_43 rfl ?_
        refine s_ladd dX3_isBearable_45 ?_
        refine s_aloadn dX3_isBearable_46 rfl rfl ?_
        refine s_lload dX3_isBearable_47 rfl ?_
        refine s_cv1R (n := 22) dX3_isBearable_49 rfl (kv hW.th (by decide) rfl) rfl (by decide) (by decide) (by decide) (by decide) (Nat.le_of_ble_eq_true rfl) (m_X3_broughtBy hW ) ?_
        refine s_lsub dX3_isBearable_52 ?_
        refine s_lconst (v := 0) dX3_isBearable_53 (by decide) ?_
        refine s_cs2R (n := 21) dX3_isBearable_54 rfl rfl (by decide) (by decide) (by decide) (by decide) (Nat.le_of_ble_eq_true rfl) (m_J9_max_f86c9) ?_
        refine s_lstoren dX3_isBearable_57 rfl (by decide) ?_
        refine s_aloadn dX3_isBearable_58 rfl rfl ?_
        refine s_lload dX3_isBearable_59 rfl ?_
        refine s_cv1R (n := 23) dX3_isBearable_61 rfl (kv hW.th (by decide) rfl) rfl (by decide) (by decide) (by decide) (by decide) (Nat.le_of_ble_eq_true rfl) (m_X3_grown hW ) ?_
        refine s_lstore dX3_isBearable_64 (by decide) ?_
        refine s_lloadn dX3_isBearable_66 rfl rfl ?_
        refine s_ldc2 (v := 100) dX3_isBearable_67 csl_RX3_279 ?_
        refine s_lmul dX3_isBearable_70 ?_
        refine s_lload dX3_isBearable_71 rfl ?_
        refine s_ldc2 (v := 120) dX3_isBearable_73 csl_RX3_352 ?_
        refine s_lmul dX3_isBearable_76 ?_
        refine s_lcle (tgt := 83) dX3_isBearable_77 dX3_isBearable_78 (by decide) (fun c_77 => ?_) (fun c_77 => ?_)
        · skip
          refine s_iinc (v := (nI k) + 1) dX3_isBearable_83 rfl (by rfl) (by decide) ?_
          refine s_goto (tgt := 21) dX3_isBearable_86 (by decide) ?_
          exact s_sub (lo' := [(0, .ref w.th), (1, .int ys), (2, .long (f_J9_max_f86c9 ((o + (f_X3_quotient (o * (((c.ti 8) : Int32).toInt64)) 10000)) - (f_X3_broughtBy  c m)) 0)), (4, .long (f_X3_grown  c m)), (6, .int (nI (k + 1)))]) (List.forall_mem_cons.mpr ⟨rfl, List.forall_mem_cons.mpr ⟨rfl, List.forall_mem_cons.mpr ⟨rfl, List.forall_mem_cons.mpr ⟨rfl, List.forall_mem_cons.mpr ⟨congrArg (fun z => some (Value.int z)) (nI_1 k), fun _ h => absurd h List.not_mem_nil⟩⟩⟩⟩⟩) (Nat.zero_le _) (Nat.zero_le _) (ih (k + 1) _ _ (by omega) (by rw [← he, e_X3_isBearable_s, if_pos c_77]))
        · skip
          refine s_iconst (v := 0) dX3_isBearable_81 (by decide) ?_
          exact s_reti dX3_isBearable_82 rfl (nr_bool (by decide)) (PO.of (F := f_X3_isBearable w.n c ys) (x := .inl (some (.int 0))) (by unfold f_X3_isBearable; rw [if_pos r_4, ← he, e_X3_isBearable_s, if_neg c_77]) hW hF)
    exact s_sub (lo' := [(0, .ref w.th), (1, .int ys), (2, .long (f_X3_debt w.n c)), (4, .long (c.tj 5)), (6, .int (nI 0))]) (List.forall_mem_cons.mpr ⟨rfl, List.forall_mem_cons.mpr ⟨rfl, List.forall_mem_cons.mpr ⟨rfl, List.forall_mem_cons.mpr ⟨rfl, List.forall_mem_cons.mpr ⟨rfl, fun _ h => absurd h List.not_mem_nil⟩⟩⟩⟩⟩) (Nat.zero_le _) (Nat.zero_le _) (LP (ix ys) 0 _ _ (by omega) rfl)
  · exact s_cs3T (n := 11) dX3_isBearable_4 rfl rfl (by decide) (by decide) (by decide) (by decide) (Nat.le_of_ble_eq_true rfl) (m_needRange_no r_4) rfl (PO.of (F := f_X3_isBearable w.n c ys) (x := .inr 1) (by unfold f_X3_isBearable; rw [if_neg r_4]) hW hF)
