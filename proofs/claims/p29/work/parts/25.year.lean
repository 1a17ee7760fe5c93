/-! THE PROGRAM, 6: values, and what a year does to the claims -/
def ix (x : Int32) : Nat := x.toNatClampNeg
theorem dn_0 {y : Int32} : y = y - nI 0 := (Int32.sub_zero y).symm
theorem dn_s {y : Int32} {k : Nat} : y - nI k + (-1) = y - nI (k + 1) := by
  rw [← nI_1, Int32.sub_eq_add_neg, Int32.sub_eq_add_neg, Int32.neg_add, Int32.add_assoc, Int32.sub_eq_add_neg]
theorem ix_le {y : Int32} : (ix y : Int) = max y.toInt 0 := by
  have e : ix y = y.toInt.toNat := rfl
  omega
theorem ix_lt {y : Int32} : ix y < 2 ^ 31 := by
  have e : ix y = y.toInt.toNat := rfl
  have := y.toInt_lt
  omega
theorem dn_t {y : Int32} {k : Nat} (h : k ≤ ix y) : (y - nI k).toInt = y.toInt - k := by
  have h1 := @ix_le y
  have h2 := @ix_lt y
  have h3 := y.toInt_lt
  have h4 := y.le_toInt
  rw [Int32.toInt_sub, nI_toInt (by omega)]
  apply Int.bmod_eq_of_le <;> omega
theorem dn_z {y : Int32} : y - nI (ix y) ≤ 0 := by
  rw [Int32.le_iff_toInt_le, dn_t (Nat.le_refl _), ix_le]
  show _ ≤ (0 : Int)
  omega
theorem dn_m {y : Int32} {k : Nat} (h : k < ix y) : ¬ y - nI k ≤ 0 := by
  rw [Int32.le_iff_toInt_le, dn_t (by omega)]
  have h1 := @ix_le y
  show ¬ _ ≤ (0 : Int)
  omega
theorem ix_nI {x : Int32} (h : 0 ≤ x) : nI (ix x) = x := by
  apply Int32.toInt_inj.mp
  rw [nI_toInt ix_lt, ix_le]
  rw [Int32.le_iff_toInt_le] at h
  have : (0 : Int) ≤ x.toInt := h
  omega
theorem ix_of {x : Int32} {n : Nat} (h : 0 ≤ x) (h1 : x < nI n) (hn : n < 2 ^ 31) : ix x < n := by
  rw [Int32.lt_iff_toInt_lt, nI_toInt hn] at h1
  have h2 := @ix_le x
  rw [Int32.le_iff_toInt_le] at h
  have h3 : (0 : Int) ≤ x.toInt := h
  omega

theorem nn1 {x : Int32} (h : 0 ≤ x) (h1 : ¬ nI 70 ≤ x) : 0 ≤ x + 1 := by
  rw [Int32.le_iff_toInt_le] at *
  rw [nI_toInt (by decide)] at h1
  have h2 : (0 : Int) ≤ x.toInt := h
  have h3 : (1 : Int32).toInt = 1 := rfl
  rw [Int32.toInt_add, h3, Int.bmod_eq_of_le (by omega) (by omega)]
  show (0 : Int) ≤ _
  omega
def g_X3_discounted (p : Int64) (q ys r : Int32) : Nat → Int64 × Int64
  | 0 => (0, p + (f_X3_couponOf p q))
  | k + 1 => ((f_X3_quotient ((((g_X3_discounted p q ys r k).1) + ((g_X3_discounted p q ys r k).2)) * 10000) ((10000 + r : Int32).toInt64)), (f_X3_couponOf p q))
theorem g_X3_discounted_s {p : Int64} {q ys r : Int32} {k : Nat} : g_X3_discounted p q ys r (k + 1) = (((f_X3_quotient ((((g_X3_discounted p q ys r k).1) + ((g_X3_discounted p q ys r k).2)) * 10000) ((10000 + r : Int32).toInt64)), (f_X3_couponOf p q)) : Int64 × Int64) := rfl
def f_X3_discounted (p : Int64) (q ys r : Int32) : Int64 := (g_X3_discounted p q ys r (ix ys)).1
set_option maxHeartbeats 4000000 in
theorem m_X3_discounted {tm : Nat × Nat} {S : Sto} {w : CAd} {c : CC} {p : Int64} {q ys r : Int32} (hW : CW tm S w c)  : Ev tm M_X3_discounted [.long p, .int q, .int ys, .int r] S (Rt (some (.long (f_X3_discounted p q ys r))) S) := by
  have hF : FrC S S := FrC.rf
  refine ev_in ok_X3_discounted (Nat.le_of_ble_eq_true rfl) ?_
  refine s_lconst (v := 0) dX3_discounted_0 (by decide) ?_
  refine s_lstore dX3_discounted_1 (by decide) ?_
  refine s_lloadn dX3_discounted_3 rfl rfl ?_
  refine s_lloadn dX3_discounted_4 rfl rfl ?_
  refine s_iloadn dX3_discounted_5 rfl rfl ?_
  refine s_cs2R (n := 3) dX3_discounted_6 rfl rfl (by decide) (by decide) (by decide) (by decide) (Nat.le_of_ble_eq_true rfl) (m_X3_couponOf) ?_
  refine s_ladd dX3_discounted_9 ?_
  refine s_lstore dX3_discounted_10 (by decide) ?_
  refine s_iloadn dX3_discounted_12 rfl rfl ?_
  refine s_istore dX3_discounted_13 (by decide) ?_
  have LP_15 : ∀ (d k : Nat), k + d = (ix ys) → Wp (Ev tm) tm M_X3_discounted (Rt (some (.long (f_X3_discounted p q ys r))) S) 15 [(0, .long p), (2, .int q), (3, .int ys), (4, .int r), (5, .long ((g_X3_discounted p q ys r k).1)), (7, .long ((g_X3_discounted p q ys r k).2)), (9, .int (ys - nI k))] [] 0 0 S := by
    intro d
    induction d with
    | zero =>
      intro k hkd
      have hkn : k = (ix ys) := by omega
      subst hkn
      refine s_iload dX3_discounted_15 rfl ?_
      refine s_ifle (tgt := 54) dX3_discounted_17 (by decide) (fun _ => ?_) (fun c => absurd dn_z c)
      refine s_lload dX3_discounted_54 rfl ?_
      exact s_retl dX3_discounted_56 rfl ⟨congrArg (fun z => Sum.inl (some (Value.long z))) (Eq.symm (by unfold f_X3_discounted; rfl)), rfl⟩
    | succ d ih =>
      intro k hkd
      have hlt : k < (ix ys) := by omega
      refine s_iload dX3_discounted_15 rfl ?_
      refine s_ifle (tgt := 54) dX3_discounted_17 (by decide) (fun c => absurd c (dn_m hlt)) (fun _ => ?_)
      refine s_lload dX3_discounted_20 rfl ?_
      refine s_lload dX3_discounted_22 rfl ?_
      refine s_ladd dX3_discounted_24 ?_
      refine s_ldc2 (v := 10000) dX3_discounted_25 csl_RX3_146 ?_
      refine s_lmul dX3_discounted_28 ?_
      refine s_sipush (v := 10000) dX3_discounted_29 (by decide) ?_
      refine s_iload dX3_discounted_32 rfl ?_
      refine s_iadd dX3_discounted_34 ?_
      refine s_i2l dX3_discounted_35 ?_
      refine s_cs2R (n := 1) dX3_discounted_36 rfl rfl (by decide) (by decide) (by decide) (by decide) (Nat.le_of_ble_eq_true rfl) (m_X3_quotient) ?_
      refine s_lstore dX3_discounted_39 (by decide) ?_
      refine s_lloadn dX3_discounted_41 rfl rfl ?_
      refine s_iloadn dX3_discounted_42 rfl rfl ?_
      refine s_cs2R (n := 3) dX3_discounted_43 rfl rfl (by decide) (by decide) (by decide) (by decide) (Nat.le_of_ble_eq_true rfl) (m_X3_couponOf) ?_
      refine s_lstore dX3_discounted_46 (by decide) ?_
      refine s_iinc (v := (ys - nI k) + (-1)) dX3_discounted_48 rfl (by rfl) (by decide) ?_
      refine s_goto (tgt := 15) dX3_discounted_51 (by decide) ?_
      exact s_sub (lo' := [(0, .long p), (2, .int q), (3, .int ys), (4, .int r), (5, .long ((g_X3_discounted p q ys r (k + 1)).1)), (7, .long ((g_X3_discounted p q ys r (k + 1)).2)), (9, .int (ys - nI (k + 1)))]) (List.forall_mem_cons.mpr ⟨rfl, List.forall_mem_cons.mpr ⟨rfl, List.forall_mem_cons.mpr ⟨rfl, List.forall_mem_cons.mpr ⟨rfl, List.forall_mem_cons.mpr ⟨congrArg (fun z => some (Value.long z)) (Eq.symm (by rw [g_X3_discounted_s])), List.forall_mem_cons.mpr ⟨congrArg (fun z => some (Value.long z)) (Eq.symm (by rw [g_X3_discounted_s])), List.forall_mem_cons.mpr ⟨congrArg (fun z => some (Value.int z)) (dn_s), fun _ h => absurd h List.not_mem_nil⟩⟩⟩⟩⟩⟩⟩) (Nat.zero_le _) (Nat.zero_le _) (ih (k + 1) (by omega))
  exact s_sub (lo' := [(0, .long p), (2, .int q), (3, .int ys), (4, .int r), (5, .long ((g_X3_discounted p q ys r 0).1)), (7, .long ((g_X3_discounted p q ys r 0).2)), (9, .int (ys - nI 0))]) (List.forall_mem_cons.mpr ⟨rfl, List.forall_mem_cons.mpr ⟨rfl, List.forall_mem_cons.mpr ⟨rfl, List.forall_mem_cons.mpr ⟨rfl, List.forall_mem_cons.mpr ⟨rfl, List.forall_mem_cons.mpr ⟨rfl, List.forall_mem_cons.mpr ⟨congrArg (fun z => some (Value.int z)) dn_0, fun _ h => absurd h List.not_mem_nil⟩⟩⟩⟩⟩⟩⟩) (Nat.zero_le _) (Nat.zero_le _) (LP_15 (ix ys) 0 (by omega))
def f_X0_worth (c : CC) (i : Nat) (yr r : Int32) : Int64 := if (i_X0_isOpen c i) = 0 then 0 else (f_X3_discounted (c.cj i 5) (c.ci i 6) ((c.ci i 7) - yr) r) + (c.cj i 9)
set_option maxHeartbeats 4000000 in
theorem m_X0_worth {tm : Nat × Nat} {S : Sto} {w : CAd} {c : CC} {i : Nat} {yr r : Int32} (hW : CW tm S w c) (hi : i < w.m) : Ev tm M_X0_worth [.ref (w.ca i), .int yr, .int r] S (Rt (some (.long (f_X0_worth c i yr r))) S) := by
  have hF : FrC S S := FrC.rf
  refine ev_in ok_X0_worth (Nat.le_of_ble_eq_true rfl) ?_
  refine s_aloadn dX0_worth_0 rfl rfl ?_
  refine s_cv0R (n := 0) dX0_worth_1 rfl (kv (hW.cK _ hi) (by decide) rfl) rfl (by decide) (by decide) (by decide) (by decide) (Nat.le_of_ble_eq_true rfl) (mi_X0_isOpen hW hi) ?_
  refine s_ifeq (tgt := 33) dX0_worth_4 (by decide) (fun c_4 => ?_) (fun c_4 => ?_)
  · skip
    refine s_lconst (v := 0) dX0_worth_33 (by decide) ?_
    exact s_retl dX0_worth_34 rfl ⟨congrArg (fun z => Sum.inl (some (Value.long z))) (Eq.symm (by unfold f_X0_worth; rw [if_pos c_4])), rfl⟩
  · skip
    refine s_aloadn dX0_worth_7 rfl rfl ?_
    refine s_get (v := .long (c.cj i 5)) (n := 28) dX0_worth_8 rfl (hW.cK _ hi) (congrArg Value.long (congrFun (hW.cj _ hi) 5)) ?_
    refine s_aloadn dX0_worth_11 rfl rfl ?_
    refine s_get (v := .int (c.ci i 6)) (n := 30) dX0_worth_12 rfl (hW.cK _ hi) (congrArg Value.int (congrFun (hW.ci _ hi) 6)) ?_
    refine s_aloadn dX0_worth_15 rfl rfl ?_
    refine s_get (v := .int (c.ci i 7)) (n := 31) dX0_worth_16 rfl (hW.cK _ hi) (congrArg Value.int (congrFun (hW.ci _ hi) 7)) ?_
    refine s_iloadn dX0_worth_19 rfl rfl ?_
    refine s_isub dX0_worth_20 ?_
    refine s_iloadn dX0_worth_21 rfl rfl ?_
    refine s_cn4R (n := 2) dX0_worth_22 rfl rfl (by decide) (by decide) (by decide) (by decide) (Nat.le_of_ble_eq_true rfl) (m_X3_discounted hW) ?_
    refine s_aloadn dX0_worth_25 rfl rfl ?_
    refine s_get (v := .long (c.cj i 9)) (n := 35) dX0_worth_26 rfl (hW.cK _ hi) (congrArg Value.long (congrFun (hW.cj _ hi) 9)) ?_
    refine s_ladd dX0_worth_29 ?_
    refine s_goto (tgt := 34) dX0_worth_30 (by decide) ?_
    exact s_retl dX0_worth_34 rfl ⟨congrArg (fun z => Sum.inl (some (Value.long z))) (Eq.symm (by unfold f_X0_worth; rw [if_neg c_4])), rfl⟩
def g_X0_paymentsAdded (c : CC) (i : Nat) : Nat → Int64
  | 0 => 0
  | k + 1 => (g_X0_paymentsAdded c i k) + (c.pay i k)
theorem g_X0_paymentsAdded_s {c : CC} {i : Nat} {k : Nat} : g_X0_paymentsAdded c i (k + 1) = ((g_X0_paymentsAdded c i k) + (c.pay i k) : Int64) := rfl
def f_X0_paymentsAdded (c : CC) (i : Nat) : Int64 := (g_X0_paymentsAdded c i 70)
set_option maxHeartbeats 4000000 in
theorem m_X0_paymentsAdded {tm : Nat × Nat} {S : Sto} {w : CAd} {c : CC} {i : Nat} (hW : CW tm S w c) (hi : i < w.m) : Ev tm M_X0_paymentsAdded [.ref (w.ca i)] S (Rt (some (.long (f_X0_paymentsAdded c i))) S) := by
  have hF : FrC S S := FrC.rf
  refine ev_in ok_X0_paymentsAdded (Nat.le_of_ble_eq_true rfl) ?_
  refine s_lconst (v := 0) dX0_paymentsAdded_0 (by decide) ?_
  refine s_lstoren dX0_paymentsAdded_1 rfl (by decide) ?_
  refine s_aloadn dX0_paymentsAdded_2 rfl rfl ?_
  refine s_getR (n := 49) dX0_paymentsAdded_3 rfl (hW.cK _ hi) (fun _ _ _ => rfl) (hW.cp _ hi) ?_
  refine s_astoren dX0_paymentsAdded_6 rfl (by decide) ?_
  refine s_aloadn dX0_paymentsAdded_7 rfl rfl ?_
  refine s_alen dX0_paymentsAdded_8 (by rw [(hW.pk _ hi).1]; decide) (by rw [(hW.pk _ hi).1]; decide) ?_
  rw [(hW.pk _ hi).2]
  show Wp _ _ _ _ _ _ (Value.int (nI 70) :: _) _ _ _
  refine s_istore dX0_paymentsAdded_9 (by decide) ?_
  refine s_iconst (v := 0) dX0_paymentsAdded_11 (by decide) ?_
  refine s_istore dX0_paymentsAdded_12 (by decide) ?_
  have LP_14 : ∀ (d k : Nat), k + d = 70 → Wp (Ev tm) tm M_X0_paymentsAdded (Rt (some (.long (f_X0_paymentsAdded c i))) S) 14 [(0, .ref (w.ca i)), (1, .long (g_X0_paymentsAdded c i k)), (3, .ref (w.pa i)), (4, .int (nI 70)), (5, .int (nI k))] [] 0 0 S := by
    intro d
    induction d with
    | zero =>
      intro k hkd
      have hkn : k = 70 := by omega
      subst hkn
      refine s_iload dX0_paymentsAdded_14 rfl ?_
      refine s_iload dX0_paymentsAdded_16 rfl ?_
      refine s_icge (tgt := 38) dX0_paymentsAdded_18 (by decide) (fun _ => ?_) (fun c => absurd (Int32.le_refl _) c)
      refine s_lloadn dX0_paymentsAdded_38 rfl rfl ?_
      exact s_retl dX0_paymentsAdded_39 rfl ⟨congrArg (fun z => Sum.inl (some (Value.long z))) (Eq.symm (by unfold f_X0_paymentsAdded; rfl)), rfl⟩
    | succ d ih =>
      intro k hkd
      have hlt : k < 70 := by omega
      refine s_iload dX0_paymentsAdded_14 rfl ?_
      refine s_iload dX0_paymentsAdded_16 rfl ?_
      refine s_icge (tgt := 38) dX0_paymentsAdded_18 (by decide) (fun c => absurd c (nI_ge hlt (by omega))) (fun _ => ?_)
      refine s_aloadn dX0_paymentsAdded_21 rfl rfl ?_
      refine s_iload dX0_paymentsAdded_22 rfl ?_
      refine s_lald' (j := k) dX0_paymentsAdded_24 (Or.inl (hW.pk _ hi).1) rfl (by rw [(hW.pk _ hi).2]; omega) (by rw [(hW.pk _ hi).2]; decide) ?_
      rw [hW.pay _ hi]
      refine s_lstore dX0_paymentsAdded_25 (by decide) ?_
      refine s_lloadn dX0_paymentsAdded_27 rfl rfl ?_
      refine s_lload dX0_paymentsAdded_28 rfl ?_
      refine s_ladd dX0_paymentsAdded_30 ?_
      refine s_lstoren dX0_paymentsAdded_31 rfl (by decide) ?_
      refine s_iinc (v := (nI k) + 1) dX0_paymentsAdded_32 rfl (by rfl) (by decide) ?_
      refine s_goto (tgt := 14) dX0_paymentsAdded_35 (by decide) ?_
      exact s_sub (lo' := [(0, .ref (w.ca i)), (1, .long (g_X0_paymentsAdded c i (k + 1))), (3, .ref (w.pa i)), (4, .int (nI 70)), (5, .int (nI (k + 1)))]) (List.forall_mem_cons.mpr ⟨rfl, List.forall_mem_cons.mpr ⟨congrArg (fun z => some (Value.long z)) (Eq.symm (by rw [g_X0_paymentsAdded_s])), List.forall_mem_cons.mpr ⟨rfl, List.forall_mem_cons.mpr ⟨rfl, List.forall_mem_cons.mpr ⟨congrArg (fun z => some (Value.int z)) (nI_1 k), fun _ h => absurd h List.not_mem_nil⟩⟩⟩⟩⟩) (Nat.zero_le _) (Nat.zero_le _) (ih (k + 1) (by omega))
  exact s_sub (lo' := [(0, .ref (w.ca i)), (1, .long (g_X0_paymentsAdded c i 0)), (3, .ref (w.pa i)), (4, .int (nI 70)), (5, .int (nI 0))]) (List.forall_mem_cons.mpr ⟨rfl, List.forall_mem_cons.mpr ⟨rfl, List.forall_mem_cons.mpr ⟨rfl, List.forall_mem_cons.mpr ⟨rfl, List.forall_mem_cons.mpr ⟨rfl, fun _ h => absurd h List.not_mem_nil⟩⟩⟩⟩⟩) (Nat.zero_le _) (Nat.zero_le _) (LP_14 70 0 (by omega))
def f_X3_broughtBy (c : CC) (x : Int64) : Int64 := (f_X3_quotient (x * (((c.ti 7) : Int32).toInt64)) 1000)
set_option maxHeartbeats 4000000 in
theorem m_X3_broughtBy {tm : Nat × Nat} {S : Sto} {w : CAd} {c : CC}  {x : Int64} (hW : CW tm S w c)  : Ev tm M_X3_broughtBy [.ref w.th, .long x] S (Rt (some (.long (f_X3_broughtBy c x))) S) := by
  have hF : FrC S S := FrC.rf
  refine ev_in ok_X3_broughtBy (Nat.le_of_ble_eq_true rfl) ?_
  have hn40 := hW.n40
  refine s_lloadn dX3_broughtBy_0 rfl rfl ?_
  refine s_aloadn dX3_broughtBy_1 rfl rfl ?_
  refine s_get (v := .int (c.ti 7)) (n := 11) dX3_broughtBy_2 rfl hW.th (congrArg Value.int (congrFun hW.ti 7)) ?_
  refine s_i2l dX3_broughtBy_5 ?_
  refine s_lmul dX3_broughtBy_6 ?_
  refine s_ldc2 (v := 1000) dX3_broughtBy_7 csl_RX3_140 ?_
  refine s_cs2R (n := 1) dX3_broughtBy_10 rfl rfl (by decide) (by decide) (by decide) (by decide) (Nat.le_of_ble_eq_true rfl) (m_X3_quotient) ?_
  exact s_retl dX3_broughtBy_13 rfl ⟨congrArg (fun z => Sum.inl (some (Value.long z))) (Eq.symm (by unfold f_X3_broughtBy; rfl)), rfl⟩
def f_X3_grown (c : CC) (x : Int64) : Int64 := x + (f_X3_quotient (x * (((c.ti 6) : Int32).toInt64)) 10000)
set_option maxHeartbeats 4000000 in
theorem m_X3_grown {tm : Nat × Nat} {S : Sto} {w : CAd} {c : CC}  {x : Int64} (hW : CW tm S w c)  : Ev tm M_X3_grown [.ref w.th, .long x] S (Rt (some (.long (f_X3_grown c x))) S) := by
  have hF : FrC S S := FrC.rf
  refine ev_in ok_X3_grown (Nat.le_of_ble_eq_true rfl) ?_
  have hn40 := hW.n40
  refine s_lloadn dX3_grown_0 rfl rfl ?_
  refine s_lloadn dX3_grown_1 rfl rfl ?_
  refine s_aloadn dX3_grown_2 rfl rfl ?_
  refine s_get (v := .int (c.ti 6)) (n := 10) dX3_grown_3 rfl hW.th (congrArg Value.int (congrFun hW.ti 6)) ?_
  refine s_i2l dX3_grown_6 ?_
  refine s_lmul dX3_grown_7 ?_
  refine s_ldc2 (v := 10000) dX3_grown_8 csl_RX3_146 ?_
  refine s_cs2R (n := 1) dX3_grown_11 rfl rfl (by decide) (by decide) (by decide) (by decide) (Nat.le_of_ble_eq_true rfl) (m_X3_quotient) ?_
  refine s_ladd dX3_grown_14 ?_
  exact s_retl dX3_grown_15 rfl ⟨congrArg (fun z => Sum.inl (some (Value.long z))) (Eq.symm (by unfold f_X3_grown; rfl)), rfl⟩
def f_X3_reasonToFail (n : Nat) (c : CC) : Int32 := if (c.ti 12) ≤ (c.ti 7) then (if (f_X3_hasFundArrears n c) = 0 then (if (f_X3_owedToOfficials n c 0) ≤ ((f_X3_owedToOfficials n c 1) * 2) then 0 else 3) else 2) else 1
set_option maxHeartbeats 4000000 in
theorem m_X3_reasonToFail {tm : Nat × Nat} {S : Sto} {w : CAd} {c : CC}  (hW : CW tm S w c)  : Ev tm M_X3_reasonToFail [.ref w.th] S (Rt (some (.int (f_X3_reasonToFail w.n c))) S) := by
  have hF : FrC S S := FrC.rf
  refine ev_in ok_X3_reasonToFail (Nat.le_of_ble_eq_true rfl) ?_
  have hn40 := hW.n40
  refine s_aloadn dX3_reasonToFail_0 rfl rfl ?_
  refine s_get (v := .int (c.ti 7)) (n := 11) dX3_reasonToFail_1 rfl hW.th (congrArg Value.int (congrFun hW.ti 7)) ?_
  refine s_aloadn dX3_reasonToFail_4 rfl rfl ?_
  refine s_get (v := .int (c.ti 12)) (n := 16) dX3_reasonToFail_5 rfl hW.th (congrArg Value.int (congrFun hW.ti 12)) ?_
  refine s_icge (tgt := 13) dX3_reasonToFail_8 (by decide) (fun c_8 => ?_) (fun c_8 => ?_)
  · skip
    refine s_aloadn dX3_reasonToFail_13 rfl rfl ?_
    refine s_cv0R (n := 42) dX3_reasonToFail_14 rfl (kv hW.th (by decide) rfl) rfl (by decide) (by decide) (by decide) (by decide) (Nat.le_of_ble_eq_true rfl) (m_X3_hasFundArrears hW ) ?_
    refine s_ifeq (tgt := 22) dX3_reasonToFail_17 (by decide) (fun c_17 => ?_) (fun c_17 => ?_)
    · skip
      refine s_aloadn dX3_reasonToFail_22 rfl rfl ?_
      refine s_iconst (v := 1) dX3_reasonToFail_23 (by decide) ?_
      refine s_cv1R (n := 43) dX3_reasonToFail_24 rfl (kv hW.th (by decide) rfl) rfl (by decide) (by decide) (by decide) (by decide) (Nat.le_of_ble_eq_true rfl) (m_X3_owedToOfficials hW ) ?_
      refine s_ldc2 (v := 2) dX3_reasonToFail_27 csl_RX3_331 ?_
      refine s_lmul dX3_reasonToFail_30 ?_
      refine s_aloadn dX3_reasonToFail_31 rfl rfl ?_
      refine s_iconst (v := 0) dX3_reasonToFail_32 (by decide) ?_
      refine s_cv1R (n := 43) dX3_reasonToFail_33 rfl (kv hW.th (by decide) rfl) rfl (by decide) (by decide) (by decide) (by decide) (Nat.le_of_ble_eq_true rfl) (m_X3_owedToOfficials hW ) ?_
      refine s_lcge (tgt := 44) dX3_reasonToFail_36 dX3_reasonToFail_37 (by decide) (fun c_36 => ?_) (fun c_36 => ?_)
      · skip
        refine s_iconst (v := 0) dX3_reasonToFail_44 (by decide) ?_
        exact s_reti dX3_reasonToFail_45 rfl rfl ⟨congrArg (fun z => Sum.inl (some (Value.int z))) (Eq.symm (by unfold f_X3_reasonToFail; rw [if_pos c_8, if_pos c_17, if_pos c_36])), rfl⟩
      · skip
        refine s_iconst (v := 3) dX3_reasonToFail_40 (by decide) ?_
        refine s_goto (tgt := 45) dX3_reasonToFail_41 (by decide) ?_
        exact s_reti dX3_reasonToFail_45 rfl rfl ⟨congrArg (fun z => Sum.inl (some (Value.int z))) (Eq.symm (by unfold f_X3_reasonToFail; rw [if_pos c_8, if_pos c_17, if_neg c_36])), rfl⟩
    · skip
      refine s_iconst (v := 2) dX3_reasonToFail_20 (by decide) ?_
      exact s_reti dX3_reasonToFail_21 rfl rfl ⟨congrArg (fun z => Sum.inl (some (Value.int z))) (Eq.symm (by unfold f_X3_reasonToFail; rw [if_pos c_8, if_neg c_17])), rfl⟩
  · skip
    refine s_iconst (v := 1) dX3_reasonToFail_11 (by decide) ?_
    exact s_reti dX3_reasonToFail_12 rfl rfl ⟨congrArg (fun z => Sum.inl (some (Value.int z))) (Eq.symm (by unfold f_X3_reasonToFail; rw [if_neg c_8])), rfl⟩
def f_X0_fallDue (c : CC) (i : Nat) (yr : Int32) : CC := if (c.ci i 7) < yr then (if yr = (c.ci i 7) then (((c.pcj i 9 ((c.cj i 9) + (f_X3_quotient ((c.cj i 9) * 500) 10000))).pcj i 9 (((c.cj i 9) + (f_X3_quotient ((c.cj i 9) * 500) 10000)) + (c.cj i 5))).pcj i 5 0) else (c.pcj i 9 ((c.cj i 9) + (f_X3_quotient ((c.cj i 9) * 500) 10000)))) else (if yr = (c.ci i 7) then ((((c.pcj i 9 ((c.cj i 9) + (f_X3_quotient ((c.cj i 9) * 500) 10000))).pcj i 9 (((c.cj i 9) + (f_X3_quotient ((c.cj i 9) * 500) 10000)) + (f_X3_couponOf (c.cj i 5) (c.ci i 6)))).pcj i 9 ((((c.cj i 9) + (f_X3_quotient ((c.cj i 9) * 500) 10000)) + (f_X3_couponOf (c.cj i 5) (c.ci i 6))) + (c.cj i 5))).pcj i 5 0) else ((c.pcj i 9 ((c.cj i 9) + (f_X3_quotient ((c.cj i 9) * 500) 10000))).pcj i 9 (((c.cj i 9) + (f_X3_quotient ((c.cj i 9) * 500) 10000)) + (f_X3_couponOf (c.cj i 5) (c.ci i 6)))))
set_option maxHeartbeats 4000000 in
theorem m_X0_fallDue {tm : Nat × Nat} {S : Sto} {w : CAd} {c : CC} {i : Nat} {yr : Int32} (hW : CW tm S w c) (hi : i < w.m) : Ev tm M_X0_fallDue [.ref (w.ca i), .int yr] S (PV tm w S (f_X0_fallDue c i yr)) := by
  have hF : FrC S S := FrC.rf
  refine ev_in ok_X0_fallDue (Nat.le_of_ble_eq_true rfl) ?_
  refine s_aloadn dX0_fallDue_0 rfl rfl ?_
  refine s_dup dX0_fallDue_1 rfl ?_
  refine s_get (v := .long (c.cj i 9)) (n := 35) dX0_fallDue_2 rfl (hW.cK _ hi) (congrArg Value.long (congrFun (hW.cj _ hi) 9)) ?_
  refine s_aloadn dX0_fallDue_5 rfl rfl ?_
  refine s_get (v := .long (c.cj i 9)) (n := 35) dX0_fallDue_6 rfl (hW.cK _ hi) (congrArg Value.long (congrFun (hW.cj _ hi) 9)) ?_
  refine s_ldc2 (v := 500) dX0_fallDue_9 csl_RX0_76 ?_
  refine s_lmul dX0_fallDue_12 ?_
  refine s_ldc2 (v := 10000) dX0_fallDue_13 csl_RX0_78 ?_
  refine s_cn2R (n := 0) dX0_fallDue_16 rfl rfl (by decide) (by decide) (by decide) (by decide) (Nat.le_of_ble_eq_true rfl) (m_X3_quotient) ?_
  refine s_ladd dX0_fallDue_19 ?_
  refine s_putJ (n := 35) dX0_fallDue_20 rfl (hW.cK _ hi) (Or.inl rfl) (fun _ _ _ => rfl) rfl rfl ?_
  have hW1 := hW.pcj hi (k := 9) (v := (c.cj i 9) + (f_X3_quotient ((c.cj i 9) * 500) 10000))
  have hF1 := hF.uJ (k := 9) (v := (c.cj i 9) + (f_X3_quotient ((c.cj i 9) * 500) 10000)) (hW.cK _ hi) (kd := 1) (by decide)
  refine s_iloadn dX0_fallDue_23 rfl rfl ?_
  refine s_aloadn dX0_fallDue_24 rfl rfl ?_
  refine s_get (v := .int (c.ci i 7)) (n := 31) dX0_fallDue_25 rfl (hW1.cK _ hi) (congrArg Value.int (congrFun (hW1.ci _ hi) 7)) ?_
  refine s_icgt (tgt := 51) dX0_fallDue_28 (by decide) (fun c_28 => ?_) (fun c_28 => ?_)
  · skip
    refine s_iloadn dX0_fallDue_51 rfl rfl ?_
    refine s_aloadn dX0_fallDue_52 rfl rfl ?_
    refine s_get (v := .int (c.ci i 7)) (n := 31) dX0_fallDue_53 rfl (hW1.cK _ hi) (congrArg Value.int (congrFun (hW1.ci _ hi) 7)) ?_
    refine s_icne (tgt := 77) dX0_fallDue_56 (by decide) (fun c_56 => ?_) (fun c_56 => ?_)
    · skip
      exact s_retv dX0_fallDue_77 rfl (PV.of (F := f_X0_fallDue c i yr) (by unfold f_X0_fallDue; rw [if_pos c_28, if_neg c_56]) hW1 hF1)
    · skip
      refine s_aloadn dX0_fallDue_59 rfl rfl ?_
      refine s_dup dX0_fallDue_60 rfl ?_
      refine s_get (v := .long ((c.cj i 9) + (f_X3_quotient ((c.cj i 9) * 500) 10000))) (n := 35) dX0_fallDue_61 rfl (hW1.cK _ hi) (congrArg Value.long ((congrFun (hW1.cj _ hi) 9).trans (up2_self))) ?_
      refine s_aloadn dX0_fallDue_64 rfl rfl ?_
      refine s_get (v := .long (c.cj i 5)) (n := 28) dX0_fallDue_65 rfl (hW1.cK _ hi) (congrArg Value.long ((congrFun (hW1.cj _ hi) 5).trans ((up2_k (by decide))))) ?_
      refine s_ladd dX0_fallDue_68 ?_
      refine s_putJ (n := 35) dX0_fallDue_69 rfl (hW1.cK _ hi) (Or.inl rfl) (fun _ _ _ => rfl) rfl rfl ?_
      have hW2 := hW1.pcj hi (k := 9) (v := ((c.cj i 9) + (f_X3_quotient ((c.cj i 9) * 500) 10000)) + (c.cj i 5))
      have hF2 := hF1.uJ (k := 9) (v := ((c.cj i 9) + (f_X3_quotient ((c.cj i 9) * 500) 10000)) + (c.cj i 5)) (hW1.cK _ hi) (kd := 1) (by decide)
      refine s_aloadn dX0_fallDue_72 rfl rfl ?_
      refine s_lconst (v := 0) dX0_fallDue_73 (by decide) ?_
      refine s_putJ (n := 28) dX0_fallDue_74 rfl (hW2.cK _ hi) (Or.inl rfl) (fun _ _ _ => rfl) rfl rfl ?_
      have hW3 := hW2.pcj hi (k := 5) (v := 0)
      have hF3 := hF2.uJ (k := 5) (v := 0) (hW2.cK _ hi) (kd := 1) (by decide)
      exact s_retv dX0_fallDue_77 rfl (PV.of (F := f_X0_fallDue c i yr) (by unfold f_X0_fallDue; rw [if_pos c_28, if_pos c_56]) hW3 hF3)
  · skip
    refine s_aloadn dX0_fallDue_31 rfl rfl ?_
    refine s_dup dX0_fallDue_32 rfl ?_
    refine s_get (v := .long ((c.cj i 9) + (f_X3_quotient ((c.cj i 9) * 500) 10000))) (n := 35) dX0_fallDue_33 rfl (hW1.cK _ hi) (congrArg Value.long ((congrFun (hW1.cj _ hi) 9).trans (up2_self))) ?_
    refine s_aloadn dX0_fallDue_36 rfl rfl ?_
    refine s_get (v := .long (c.cj i 5)) (n := 28) dX0_fallDue_37 rfl (hW1.cK _ hi) (congrArg Value.long ((congrFun (hW1.cj _ hi) 5).trans ((up2_k (by decide))))) ?_
    refine s_aloadn dX0_fallDue_40 rfl rfl ?_
    refine s_get (v := .int (c.ci i 6)) (n := 30) dX0_fallDue_41 rfl (hW1.cK _ hi) (congrArg Value.int (congrFun (hW1.ci _ hi) 6)) ?_
    refine s_cn2R (n := 1) dX0_fallDue_44 rfl rfl (by decide) (by decide) (by decide) (by decide) (Nat.le_of_ble_eq_true rfl) (m_X3_couponOf) ?_
    refine s_ladd dX0_fallDue_47 ?_
    refine s_putJ (n := 35) dX0_fallDue_48 rfl (hW1.cK _ hi) (Or.inl rfl) (fun _ _ _ => rfl) rfl rfl ?_
    have hW4 := hW1.pcj hi (k := 9) (v := ((c.cj i 9) + (f_X3_quotient ((c.cj i 9) * 500) 10000)) + (f_X3_couponOf (c.cj i 5) (c.ci i 6)))
    have hF4 := hF1.uJ (k := 9) (v := ((c.cj i 9) + (f_X3_quotient ((c.cj i 9) * 500) 10000)) + (f_X3_couponOf (c.cj i 5) (c.ci i 6))) (hW1.cK _ hi) (kd := 1) (by decide)
    refine s_iloadn dX0_fallDue_51 rfl rfl ?_
    refine s_aloadn dX0_fallDue_52 rfl rfl ?_
    refine s_get (v := .int (c.ci i 7)) (n := 31) dX0_fallDue_53 rfl (hW4.cK _ hi) (congrArg Value.int (congrFun (hW4.ci _ hi) 7)) ?_
    refine s_icne (tgt := 77) dX0_fallDue_56 (by decide) (fun c_56 => ?_) (fun c_56 => ?_)
    · skip
      exact s_retv dX0_fallDue_77 rfl (PV.of (F := f_X0_fallDue c i yr) (by unfold f_X0_fallDue; rw [if_neg c_28, if_neg c_56]) hW4 hF4)
    · skip
      refine s_aloadn dX0_fallDue_59 rfl rfl ?_
      refine s_dup dX0_fallDue_60 rfl ?_
      refine s_get (v := .long (((c.cj i 9) + (f_X3_quotient ((c.cj i 9) * 500) 10000)) + (f_X3_couponOf (c.cj i 5) (c.ci i 6)))) (n := 35) dX0_fallDue_61 rfl (hW4.cK _ hi) (congrArg Value.long ((congrFun (hW4.cj _ hi) 9).trans (up2_self))) ?_
      refine s_aloadn dX0_fallDue_64 rfl rfl ?_
      refine s_get (v := .long (c.cj i 5)) (n := 28) dX0_fallDue_65 rfl (hW4.cK _ hi) (congrArg Value.long (((congrFun (hW4.cj _ hi) 5).trans ((up2_k (by decide)))).trans ((up2_k (by decide))))) ?_
      refine s_ladd dX0_fallDue_68 ?_
      refine s_putJ (n := 35) dX0_fallDue_69 rfl (hW4.cK _ hi) (Or.inl rfl) (fun _ _ _ => rfl) rfl rfl ?_
      have hW5 := hW4.pcj hi (k := 9) (v := (((c.cj i 9) + (f_X3_quotient ((c.cj i 9) * 500) 10000)) + (f_X3_couponOf (c.cj i 5) (c.ci i 6))) + (c.cj i 5))
      have hF5 := hF4.uJ (k := 9) (v := (((c.cj i 9) + (f_X3_quotient ((c.cj i 9) * 500) 10000)) + (f_X3_couponOf (c.cj i 5) (c.ci i 6))) + (c.cj i 5)) (hW4.cK _ hi) (kd := 1) (by decide)
      refine s_aloadn dX0_fallDue_72 rfl rfl ?_
      refine s_lconst (v := 0) dX0_fallDue_73 (by decide) ?_
      refine s_putJ (n := 28) dX0_fallDue_74 rfl (hW5.cK _ hi) (Or.inl rfl) (fun _ _ _ => rfl) rfl rfl ?_
      have hW6 := hW5.pcj hi (k := 5) (v := 0)
      have hF6 := hF5.uJ (k := 5) (v := 0) (hW5.cK _ hi) (kd := 1) (by decide)
      exact s_retv dX0_fallDue_77 rfl (PV.of (F := f_X0_fallDue c i yr) (by unfold f_X0_fallDue; rw [if_neg c_28, if_pos c_56]) hW6 hF6)
def f_X0_receive (c : CC) (i : Nat) (x : Int64) : CC := if (nI 70) ≤ (c.ci i 17) then (((c.pcj i 9 ((c.cj i 9) - (f_J9_min_f86c9 x (c.cj i 9)))).pcj i 5 ((c.cj i 5) - (x - (f_J9_min_f86c9 x (c.cj i 9))))).pcj i 15 ((c.cj i 15) + x)) else (((((c.pcj i 9 ((c.cj i 9) - (f_J9_min_f86c9 x (c.cj i 9)))).pcj i 5 ((c.cj i 5) - (x - (f_J9_min_f86c9 x (c.cj i 9))))).pcj i 15 ((c.cj i 15) + x)).ppay i (ix (c.ci i 17)) x).pci i 17 ((c.ci i 17) + 1))
set_option maxHeartbeats 4000000 in
theorem m_X0_receive {tm : Nat × Nat} {S : Sto} {w : CAd} {c : CC} {i : Nat} {x : Int64} (hW : CW tm S w c) (hi : i < w.m) : Ev tm M_X0_receive [.ref (w.ca i), .long x] S (PV tm w S (f_X0_receive c i x)) := by
  have hF : FrC S S := FrC.rf
  refine ev_in ok_X0_receive (Nat.le_of_ble_eq_true rfl) ?_
  refine s_lloadn dX0_receive_0 rfl rfl ?_
  refine s_aloadn dX0_receive_1 rfl rfl ?_
  refine s_get (v := .long (c.cj i 9)) (n := 35) dX0_receive_2 rfl (hW.cK _ hi) (congrArg Value.long (congrFun (hW.cj _ hi) 9)) ?_
  refine s_cs2R (n := 2) dX0_receive_5 rfl rfl (by decide) (by decide) (by decide) (by decide) (Nat.le_of_ble_eq_true rfl) (m_J9_min_f86c9) ?_
  refine s_lstoren dX0_receive_8 rfl (by decide) ?_
  refine s_aloadn dX0_receive_9 rfl rfl ?_
  refine s_dup dX0_receive_10 rfl ?_
  refine s_get (v := .long (c.cj i 9)) (n := 35) dX0_receive_11 rfl (hW.cK _ hi) (congrArg Value.long (congrFun (hW.cj _ hi) 9)) ?_
  refine s_lloadn dX0_receive_14 rfl rfl ?_
  refine s_lsub dX0_receive_15 ?_
  refine s_putJ (n := 35) dX0_receive_16 rfl (hW.cK _ hi) (Or.inl rfl) (fun _ _ _ => rfl) rfl rfl ?_
  have hW1 := hW.pcj hi (k := 9) (v := (c.cj i 9) - (f_J9_min_f86c9 x (c.cj i 9)))
  have hF1 := hF.uJ (k := 9) (v := (c.cj i 9) - (f_J9_min_f86c9 x (c.cj i 9))) (hW.cK _ hi) (kd := 1) (by decide)
  refine s_aloadn dX0_receive_19 rfl rfl ?_
  refine s_dup dX0_receive_20 rfl ?_
  refine s_get (v := .long (c.cj i 5)) (n := 28) dX0_receive_21 rfl (hW1.cK _ hi) (congrArg Value.long ((congrFun (hW1.cj _ hi) 5).trans ((up2_k (by decide))))) ?_
  refine s_lloadn dX0_receive_24 rfl rfl ?_
  refine s_lloadn dX0_receive_25 rfl rfl ?_
  refine s_lsub dX0_receive_26 ?_
  refine s_lsub dX0_receive_27 ?_
  refine s_putJ (n := 28) dX0_receive_28 rfl (hW1.cK _ hi) (Or.inl rfl) (fun _ _ _ => rfl) rfl rfl ?_
  have hW2 := hW1.pcj hi (k := 5) (v := (c.cj i 5) - (x - (f_J9_min_f86c9 x (c.cj i 9))))
  have hF2 := hF1.uJ (k := 5) (v := (c.cj i 5) - (x - (f_J9_min_f86c9 x (c.cj i 9)))) (hW1.cK _ hi) (kd := 1) (by decide)
  refine s_aloadn dX0_receive_31 rfl rfl ?_
  refine s_dup dX0_receive_32 rfl ?_
  refine s_get (v := .long (c.cj i 15)) (n := 47) dX0_receive_33 rfl (hW2.cK _ hi) (congrArg Value.long (((congrFun (hW2.cj _ hi) 15).trans ((up2_k (by decide)))).trans ((up2_k (by decide))))) ?_
  refine s_lloadn dX0_receive_36 rfl rfl ?_
  refine s_ladd dX0_receive_37 ?_
  refine s_putJ (n := 47) dX0_receive_38 rfl (hW2.cK _ hi) (Or.inl rfl) (fun _ _ _ => rfl) rfl rfl ?_
  have hW3 := hW2.pcj hi (k := 15) (v := (c.cj i 15) + x)
  have hF3 := hF2.uJ (k := 15) (v := (c.cj i 15) + x) (hW2.cK _ hi) (kd := 1) (by decide)
  refine s_aloadn dX0_receive_41 rfl rfl ?_
  refine s_get (v := .int (c.ci i 17)) (n := 50) dX0_receive_42 rfl (hW3.cK _ hi) (congrArg Value.int (congrFun (hW3.ci _ hi) 17)) ?_
  refine s_aloadn dX0_receive_45 rfl rfl ?_
  refine s_getR (n := 49) dX0_receive_46 rfl (hW3.cK _ hi) (fun _ _ _ => rfl) (hW3.cp _ hi) ?_
  refine s_alen dX0_receive_49 (by rw [(hW3.pk _ hi).1]; decide) (by rw [(hW3.pk _ hi).1]; decide) ?_
  rw [(hW3.pk _ hi).2]
  show Wp _ _ _ _ _ _ (Value.int (nI 70) :: _) _ _ _
  refine s_icge (tgt := 73) dX0_receive_50 (by decide) (fun c_50 => ?_) (fun c_50 => ?_)
  · skip
    exact s_retv dX0_receive_73 rfl (PV.of (F := f_X0_receive c i x) (by unfold f_X0_receive; rw [if_pos c_50]) hW3 hF3)
  · skip
    refine s_aloadn dX0_receive_53 rfl rfl ?_
    refine s_getR (n := 49) dX0_receive_54 rfl (hW3.cK _ hi) (fun _ _ _ => rfl) (hW3.cp _ hi) ?_
    refine s_aloadn dX0_receive_57 rfl rfl ?_
    refine s_get (v := .int (c.ci i 17)) (n := 50) dX0_receive_58 rfl (hW3.cK _ hi) (congrArg Value.int (congrFun (hW3.ci _ hi) 17)) ?_
    refine s_lloadn dX0_receive_61 rfl rfl ?_
    refine s_last' (j := ix (c.ci i 17)) dX0_receive_62 (Or.inl (hW3.pk _ hi).1) (ix_nI (hW3.pc _ hi)).symm (by rw [(hW3.pk _ hi).2]; exact ix_of (hW3.pc _ hi) (Int32.not_le.mp c_50) (by decide)) (by rw [(hW3.pk _ hi).2]; decide) ?_
    have hW4 := hW3.ppay hi (k := (ix (c.ci i 17))) (v := x)
    have hF4 := hF3.uJ (k := (ix (c.ci i 17))) (v := x) ((hW3.pk _ hi).1) (kd := 7) (by decide)
    refine s_aloadn dX0_receive_63 rfl rfl ?_
    refine s_dup dX0_receive_64 rfl ?_
    refine s_get (v := .int (c.ci i 17)) (n := 50) dX0_receive_65 rfl (hW4.cK _ hi) (congrArg Value.int (congrFun (hW4.ci _ hi) 17)) ?_
    refine s_iconst (v := 1) dX0_receive_68 (by decide) ?_
    refine s_iadd dX0_receive_69 ?_
    refine s_putI (n := 50) dX0_receive_70 rfl (hW4.cK _ hi) (Or.inl rfl) (fun _ _ _ => rfl) rfl rfl ?_
    have hW5 := hW4.pci hi (fun _ => nn1 (hW.pc _ hi) c_50) (fun e => absurd e (by decide)) (k := 17) (v := (c.ci i 17) + 1)
    have hF5 := hF4.uI (k := 17) (v := (c.ci i 17) + 1) (hW4.cK _ hi) (kd := 1) (by decide)
    exact s_retv dX0_receive_73 rfl (PV.of (F := f_X0_receive c i x) (by unfold f_X0_receive; rw [if_neg c_50]) hW5 hF5)
def f_X3_close (c : CC) (i : Nat) : CC := (((c.pci i 8 1).ptj 4 ((c.tj 4) + (c.cj i 10))).pcj i 10 0)
set_option maxHeartbeats 4000000 in
theorem m_X3_close {tm : Nat × Nat} {S : Sto} {w : CAd} {c : CC} {i : Nat} (hW : CW tm S w c) (hi : i < w.m) : Ev tm M_X3_close [.ref w.th, .ref (w.ca i)] S (PV tm w S (f_X3_close c i)) := by
  have hF : FrC S S := FrC.rf
  refine ev_in ok_X3_close (Nat.le_of_ble_eq_true rfl) ?_
  refine s_aloadn dX3_close_0 rfl rfl ?_
  refine s_iconst (v := 1) dX3_close_1 (by decide) ?_
  refine s_putI (n := 34) dX3_close_2 rfl (hW.cK _ hi) (Or.inl rfl) (fun _ _ _ => rfl) rfl rfl ?_
  have hW1 := hW.pci hi (fun e => absurd e (by decide)) (fun e => absurd e (by decide)) (k := 8) (v := 1)
  have hF1 := hF.uI (k := 8) (v := 1) (hW.cK _ hi) (kd := 1) (by decide)
  refine s_aloadn dX3_close_5 rfl rfl ?_
  refine s_dup dX3_close_6 rfl ?_
  refine s_get (v := .long (c.tj 4)) (n := 8) dX3_close_7 rfl hW1.th (congrArg Value.long (congrFun hW1.tj 4)) ?_
  refine s_aloadn dX3_close_10 rfl rfl ?_
  refine s_get (v := .long (c.cj i 10)) (n := 38) dX3_close_11 rfl (hW1.cK _ hi) (congrArg Value.long (congrFun (hW1.cj _ hi) 10)) ?_
  refine s_ladd dX3_close_14 ?_
  refine s_putJ (n := 8) dX3_close_15 rfl hW1.th (Or.inl rfl) (fun _ _ _ => rfl) rfl rfl ?_
  have hW2 := hW1.ptj (k := 4) (v := (c.tj 4) + (c.cj i 10))
  have hF2 := hF1.uJ (k := 4) (v := (c.tj 4) + (c.cj i 10)) hW1.th (kd := 4) (by decide)
  refine s_aloadn dX3_close_18 rfl rfl ?_
  refine s_lconst (v := 0) dX3_close_19 (by decide) ?_
  refine s_putJ (n := 38) dX3_close_20 rfl (hW2.cK _ hi) (Or.inl rfl) (fun _ _ _ => rfl) rfl rfl ?_
  have hW3 := hW2.pcj hi (k := 10) (v := 0)
  have hF3 := hF2.uJ (k := 10) (v := 0) (hW2.cK _ hi) (kd := 1) (by decide)
  exact s_retv dX3_close_23 rfl (PV.of (F := f_X3_close c i) (by unfold f_X3_close; rfl) hW3 hF3)
def f_X3_payArrears (c : CC) (i : Nat) : Int64 × CC := if (c.tj 4) ≤ 0 then ((f_J9_min_f86c9 (c.cj i 9) (c.cj i 10)) + 0, (f_X0_receive ((c.pcj i 10 ((c.cj i 10) - (f_J9_min_f86c9 (c.cj i 9) (c.cj i 10)))).ptj 4 ((c.tj 4) - 0)) i ((f_J9_min_f86c9 (c.cj i 9) (c.cj i 10)) + 0))) else (if (f_X3_hasBit (((c.ti 9) : Int32).toInt64) (c.ci i 0)) = 0 then ((f_J9_min_f86c9 (c.cj i 9) (c.cj i 10)) + (f_J9_min_f86c9 ((c.cj i 9) - (f_J9_min_f86c9 (c.cj i 9) (c.cj i 10))) (c.tj 4)), (f_X0_receive ((c.pcj i 10 ((c.cj i 10) - (f_J9_min_f86c9 (c.cj i 9) (c.cj i 10)))).ptj 4 ((c.tj 4) - (f_J9_min_f86c9 ((c.cj i 9) - (f_J9_min_f86c9 (c.cj i 9) (c.cj i 10))) (c.tj 4)))) i ((f_J9_min_f86c9 (c.cj i 9) (c.cj i 10)) + (f_J9_min_f86c9 ((c.cj i 9) - (f_J9_min_f86c9 (c.cj i 9) (c.cj i 10))) (c.tj 4))))) else ((f_J9_min_f86c9 (c.cj i 9) (c.cj i 10)) + 0, (f_X0_receive ((c.pcj i 10 ((c.cj i 10) - (f_J9_min_f86c9 (c.cj i 9) (c.cj i 10)))).ptj 4 ((c.tj 4) - 0)) i ((f_J9_min_f86c9 (c.cj i 9) (c.cj i 10)) + 0))))
set_option maxHeartbeats 4000000 in
theorem m_X3_payArrears {tm : Nat × Nat} {S : Sto} {w : CAd} {c : CC} {i : Nat} (hW : CW tm S w c) (hi : i < w.m) : Ev tm M_X3_payArrears [.ref w.th, .ref (w.ca i)] S (PJ tm w S (f_X3_payArrears c i)) := by
  have hF : FrC S S := FrC.rf
  refine ev_in ok_X3_payArrears (Nat.le_of_ble_eq_true rfl) ?_
  refine s_aloadn dX3_payArrears_0 rfl rfl ?_
  refine s_get (v := .long (c.cj i 9)) (n := 36) dX3_payArrears_1 rfl (hW.cK _ hi) (congrArg Value.long (congrFun (hW.cj _ hi) 9)) ?_
  refine s_aloadn dX3_payArrears_4 rfl rfl ?_
  refine s_get (v := .long (c.cj i 10)) (n := 38) dX3_payArrears_5 rfl (hW.cK _ hi) (congrArg Value.long (congrFun (hW.cj _ hi) 10)) ?_
  refine s_cs2R (n := 16) dX3_payArrears_8 rfl rfl (by decide) (by decide) (by decide) (by decide) (Nat.le_of_ble_eq_true rfl) (m_J9_min_f86c9) ?_
  refine s_lstoren dX3_payArrears_11 rfl (by decide) ?_
  refine s_lconst (v := 0) dX3_payArrears_12 (by decide) ?_
  refine s_lstore dX3_payArrears_13 (by decide) ?_
  refine s_aloadn dX3_payArrears_15 rfl rfl ?_
  refine s_get (v := .long (c.tj 4)) (n := 8) dX3_payArrears_16 rfl hW.th (congrArg Value.long (congrFun hW.tj 4)) ?_
  refine s_lconst (v := 0) dX3_payArrears_19 (by decide) ?_
  refine s_lcle (tgt := 54) dX3_payArrears_20 dX3_payArrears_21 (by decide) (fun c_20 => ?_) (fun c_20 => ?_)
  · skip
    refine s_aloadn dX3_payArrears_54 rfl rfl ?_
    refine s_dup dX3_payArrears_55 rfl ?_
    refine s_get (v := .long (c.cj i 10)) (n := 38) dX3_payArrears_56 rfl (hW.cK _ hi) (congrArg Value.long (congrFun (hW.cj _ hi) 10)) ?_
    refine s_lloadn dX3_payArrears_59 rfl rfl ?_
    refine s_lsub dX3_payArrears_60 ?_
    refine s_putJ (n := 38) dX3_payArrears_61 rfl (hW.cK _ hi) (Or.inl rfl) (fun _ _ _ => rfl) rfl rfl ?_
    have hW1 := hW.pcj hi (k := 10) (v := (c.cj i 10) - (f_J9_min_f86c9 (c.cj i 9) (c.cj i 10)))
    have hF1 := hF.uJ (k := 10) (v := (c.cj i 10) - (f_J9_min_f86c9 (c.cj i 9) (c.cj i 10))) (hW.cK _ hi) (kd := 1) (by decide)
    refine s_aloadn dX3_payArrears_64 rfl rfl ?_
    refine s_dup dX3_payArrears_65 rfl ?_
    refine s_get (v := .long (c.tj 4)) (n := 8) dX3_payArrears_66 rfl hW1.th (congrArg Value.long (congrFun hW1.tj 4)) ?_
    refine s_lload dX3_payArrears_69 rfl ?_
    refine s_lsub dX3_payArrears_71 ?_
    refine s_putJ (n := 8) dX3_payArrears_72 rfl hW1.th (Or.inl rfl) (fun _ _ _ => rfl) rfl rfl ?_
    have hW2 := hW1.ptj (k := 4) (v := (c.tj 4) - 0)
    have hF2 := hF1.uJ (k := 4) (v := (c.tj 4) - 0) hW1.th (kd := 4) (by decide)
    refine s_aloadn dX3_payArrears_75 rfl rfl ?_
    refine s_lloadn dX3_payArrears_76 rfl rfl ?_
    refine s_lload dX3_payArrears_77 rfl ?_
    refine s_ladd dX3_payArrears_79 ?_
    refine s_cv1G (n := 17) dX3_payArrears_80 rfl (kv (hW2.cK _ hi) (by decide) rfl) rfl (by decide) (by decide) (by decide) (by decide) (Nat.le_of_ble_eq_true rfl) (m_X0_receive hW2 hi) (fun r3 S3 hr3 => ?_) (fun x S2 hr => by obtain ⟨e, -⟩ := hr; cases e)
    obtain ⟨e3, hW3, hG3⟩ := hr3
    cases e3
    have hF3 := hF2.tr hG3
    refine s_lloadn dX3_payArrears_83 rfl rfl ?_
    refine s_lload dX3_payArrears_84 rfl ?_
    refine s_ladd dX3_payArrears_86 ?_
    exact s_retl dX3_payArrears_87 rfl (PJ.of (F := f_X3_payArrears c i) (x := (f_J9_min_f86c9 (c.cj i 9) (c.cj i 10)) + 0) (by unfold f_X3_payArrears; rw [if_pos c_20]) hW3 hF3)
  · skip
    refine s_aloadn dX3_payArrears_24 rfl rfl ?_
    refine s_get (v := .int (c.ti 9)) (n := 13) dX3_payArrears_25 rfl hW.th (congrArg Value.int (congrFun hW.ti 9)) ?_
    refine s_i2l dX3_payArrears_28 ?_
    refine s_aloadn dX3_payArrears_29 rfl rfl ?_
    refine s_get (v := .int (c.ci i 0)) (n := 19) dX3_payArrears_30 rfl (hW.cK _ hi) (congrArg Value.int (congrFun (hW.ci _ hi) 0)) ?_
    refine s_cs2R (n := 17) dX3_payArrears_33 rfl rfl (by decide) (by decide) (by decide) (by decide) (Nat.le_of_ble_eq_true rfl) (m_X3_hasBit) ?_
    refine s_ifne (tgt := 54) dX3_payArrears_36 (by decide) (fun c_36 => ?_) (fun c_36 => ?_)
    · skip
      refine s_aloadn dX3_payArrears_54 rfl rfl ?_
      refine s_dup dX3_payArrears_55 rfl ?_
      refine s_get (v := .long (c.cj i 10)) (n := 38) dX3_payArrears_56 rfl (hW.cK _ hi) (congrArg Value.long (congrFun (hW.cj _ hi) 10)) ?_
      refine s_lloadn dX3_payArrears_59 rfl rfl ?_
      refine s_lsub dX3_payArrears_60 ?_
      refine s_putJ (n := 38) dX3_payArrears_61 rfl (hW.cK _ hi) (Or.inl rfl) (fun _ _ _ => rfl) rfl rfl ?_
      have hW4 := hW.pcj hi (k := 10) (v := (c.cj i 10) - (f_J9_min_f86c9 (c.cj i 9) (c.cj i 10)))
      have hF4 := hF.uJ (k := 10) (v := (c.cj i 10) - (f_J9_min_f86c9 (c.cj i 9) (c.cj i 10))) (hW.cK _ hi) (kd := 1) (by decide)
      refine s_aloadn dX3_payArrears_64 rfl rfl ?_
      refine s_dup dX3_payArrears_65 rfl ?_
      refine s_get (v := .long (c.tj 4)) (n := 8) dX3_payArrears_66 rfl hW4.th (congrArg Value.long (congrFun hW4.tj 4)) ?_
      refine s_lload dX3_payArrears_69 rfl ?_
      refine s_lsub dX3_payArrears_71 ?_
      refine s_putJ (n := 8) dX3_payArrears_72 rfl hW4.th (Or.inl rfl) (fun _ _ _ => rfl) rfl rfl ?_
      have hW5 := hW4.ptj (k := 4) (v := (c.tj 4) - 0)
      have hF5 := hF4.uJ (k := 4) (v := (c.tj 4) - 0) hW4.th (kd := 4) (by decide)
      refine s_aloadn dX3_payArrears_75 rfl rfl ?_
      refine s_lloadn dX3_payArrears_76 rfl rfl ?_
      refine s_lload dX3_payArrears_77 rfl ?_
      refine s_ladd dX3_payArrears_79 ?_
      refine s_cv1G (n := 17) dX3_payArrears_80 rfl (kv (hW5.cK _ hi) (by decide) rfl) rfl (by decide) (by decide) (by decide) (by decide) (Nat.le_of_ble_eq_true rfl) (m_X0_receive hW5 hi) (fun r6 S6 hr6 => ?_) (fun x S2 hr => by obtain ⟨e, -⟩ := hr; cases e)
      obtain ⟨e6, hW6, hG6⟩ := hr6
      cases e6
      have hF6 := hF5.tr hG6
      refine s_lloadn dX3_payArrears_83 rfl rfl ?_
      refine s_lload dX3_payArrears_84 rfl ?_
      refine s_ladd dX3_payArrears_86 ?_
      exact s_retl dX3_payArrears_87 rfl (PJ.of (F := f_X3_payArrears c i) (x := (f_J9_min_f86c9 (c.cj i 9) (c.cj i 10)) + 0) (by unfold f_X3_payArrears; rw [if_neg c_20, if_neg c_36]) hW6 hF6)
    · skip
      refine s_aloadn dX3_payArrears_39 rfl rfl ?_
      refine s_get (v := .long (c.cj i 9)) (n := 36) dX3_payArrears_40 rfl (hW.cK _ hi) (congrArg Value.long (congrFun (hW.cj _ hi) 9)) ?_
      refine s_lloadn dX3_payArrears_43 rfl rfl ?_
      refine s_lsub dX3_payArrears_44 ?_
      refine s_aloadn dX3_payArrears_45 rfl rfl ?_
      refine s_get (v := .long (c.tj 4)) (n := 8) dX3_payArrears_46 rfl hW.th (congrArg Value.long (congrFun hW.tj 4)) ?_
      refine s_cs2R (n := 16) dX3_payArrears_49 rfl rfl (by decide) (by decide) (by decide) (by decide) (Nat.le_of_ble_eq_true rfl) (m_J9_min_f86c9) ?_
      refine s_lstore dX3_payArrears_52 (by decide) ?_
      refine s_aloadn dX3_payArrears_54 rfl rfl ?_
      refine s_dup dX3_payArrears_55 rfl ?_
      refine s_get (v := .long (c.cj i 10)) (n := 38) dX3_payArrears_56 rfl (hW.cK _ hi) (congrArg Value.long (congrFun (hW.cj _ hi) 10)) ?_
      refine s_lloadn dX3_payArrears_59 rfl rfl ?_
      refine s_lsub dX3_payArrears_60 ?_
      refine s_putJ (n := 38) dX3_payArrears_61 rfl (hW.cK _ hi) (Or.inl rfl) (fun _ _ _ => rfl) rfl rfl ?_
      have hW7 := hW.pcj hi (k := 10) (v := (c.cj i 10) - (f_J9_min_f86c9 (c.cj i 9) (c.cj i 10)))
      have hF7 := hF.uJ (k := 10) (v := (c.cj i 10) - (f_J9_min_f86c9 (c.cj i 9) (c.cj i 10))) (hW.cK _ hi) (kd := 1) (by decide)
      refine s_aloadn dX3_payArrears_64 rfl rfl ?_
      refine s_dup dX3_payArrears_65 rfl ?_
      refine s_get (v := .long (c.tj 4)) (n := 8) dX3_payArrears_66 rfl hW7.th (congrArg Value.long (congrFun hW7.tj 4)) ?_
      refine s_lload dX3_payArrears_69 rfl ?_
      refine s_lsub dX3_payArrears_71 ?_
      refine s_putJ (n := 8) dX3_payArrears_72 rfl hW7.th (Or.inl rfl) (fun _ _ _ => rfl) rfl rfl ?_
      have hW8 := hW7.ptj (k := 4) (v := (c.tj 4) - (f_J9_min_f86c9 ((c.cj i 9) - (f_J9_min_f86c9 (c.cj i 9) (c.cj i 10))) (c.tj 4)))
      have hF8 := hF7.uJ (k := 4) (v := (c.tj 4) - (f_J9_min_f86c9 ((c.cj i 9) - (f_J9_min_f86c9 (c.cj i 9) (c.cj i 10))) (c.tj 4))) hW7.th (kd := 4) (by decide)
      refine s_aloadn dX3_payArrears_75 rfl rfl ?_
      refine s_lloadn dX3_payArrears_76 rfl rfl ?_
      refine s_lload dX3_payArrears_77 rfl ?_
      refine s_ladd dX3_payArrears_79 ?_
      refine s_cv1G (n := 17) dX3_payArrears_80 rfl (kv (hW8.cK _ hi) (by decide) rfl) rfl (by decide) (by decide) (by decide) (by decide) (Nat.le_of_ble_eq_true rfl) (m_X0_receive hW8 hi) (fun r9 S9 hr9 => ?_) (fun x S2 hr => by obtain ⟨e, -⟩ := hr; cases e)
      obtain ⟨e9, hW9, hG9⟩ := hr9
      cases e9
      have hF9 := hF8.tr hG9
      refine s_lloadn dX3_payArrears_83 rfl rfl ?_
      refine s_lload dX3_payArrears_84 rfl ?_
      refine s_ladd dX3_payArrears_86 ?_
      exact s_retl dX3_payArrears_87 rfl (PJ.of (F := f_X3_payArrears c i) (x := (f_J9_min_f86c9 (c.cj i 9) (c.cj i 10)) + (f_J9_min_f86c9 ((c.cj i 9) - (f_J9_min_f86c9 (c.cj i 9) (c.cj i 10))) (c.tj 4))) (by unfold f_X3_payArrears; rw [if_neg c_20, if_pos c_36]) hW9 hF9)
def f_X3_serve (c : CC) (i : Nat) : Int64 × CC := if (i_X0_isOfState c i) = 0 then (if ((f_X3_payArrears (f_X0_fallDue c i (c.ti 3)) i).2.ti 3) < ((f_X3_payArrears (f_X0_fallDue c i (c.ti 3)) i).2.ci i 7) then ((f_X3_payArrears (f_X0_fallDue c i (c.ti 3)) i).1, (f_X3_payArrears (f_X0_fallDue c i (c.ti 3)) i).2) else (if ((f_X3_payArrears (f_X0_fallDue c i (c.ti 3)) i).2.cj i 9) = 0 then ((f_X3_payArrears (f_X0_fallDue c i (c.ti 3)) i).1, (f_X3_close (f_X3_payArrears (f_X0_fallDue c i (c.ti 3)) i).2 i)) else ((f_X3_payArrears (f_X0_fallDue c i (c.ti 3)) i).1, (f_X3_payArrears (f_X0_fallDue c i (c.ti 3)) i).2))) else (if (c.ti 3) < (c.ci i 7) then (0, c) else (if (c.cj i 9) = 0 then (0, (f_X3_close c i)) else (0, c)))
set_option maxHeartbeats 4000000 in
theorem m_X3_serve {tm : Nat × Nat} {S : Sto} {w : CAd} {c : CC} {i : Nat} (hW : CW tm S w c) (hi : i < w.m) : Ev tm M_X3_serve [.ref w.th, .ref (w.ca i)] S (PJ tm w S (f_X3_serve c i)) := by
  have hF : FrC S S := FrC.rf
  refine ev_in ok_X3_serve (Nat.le_of_ble_eq_true rfl) ?_
  refine s_lconst (v := 0) dX3_serve_0 (by decide) ?_
  refine s_lstoren dX3_serve_1 rfl (by decide) ?_
  refine s_aloadn dX3_serve_2 rfl rfl ?_
  refine s_cv0R (n := 14) dX3_serve_3 rfl (kv (hW.cK _ hi) (by decide) rfl) rfl (by decide) (by decide) (by decide) (by decide) (Nat.le_of_ble_eq_true rfl) (mi_X0_isOfState hW hi) ?_
  refine s_ifne (tgt := 23) dX3_serve_6 (by decide) (fun c_6 => ?_) (fun c_6 => ?_)
  · skip
    refine s_aloadn dX3_serve_23 rfl rfl ?_
    refine s_get (v := .int (c.ci i 7)) (n := 32) dX3_serve_24 rfl (hW.cK _ hi) (congrArg Value.int (congrFun (hW.ci _ hi) 7)) ?_
    refine s_aloadn dX3_serve_27 rfl rfl ?_
    refine s_get (v := .int (c.ti 3)) (n := 7) dX3_serve_28 rfl hW.th (congrArg Value.int (congrFun hW.ti 3)) ?_
    refine s_icgt (tgt := 48) dX3_serve_31 (by decide) (fun c_31 => ?_) (fun c_31 => ?_)
    · skip
      refine s_lloadn dX3_serve_48 rfl rfl ?_
      exact s_retl dX3_serve_49 rfl (PJ.of (F := f_X3_serve c i) (x := 0) (by unfold f_X3_serve; rw [if_neg c_6, if_pos c_31]) hW hF)
    · skip
      refine s_aloadn dX3_serve_34 rfl rfl ?_
      refine s_get (v := .long (c.cj i 9)) (n := 36) dX3_serve_35 rfl (hW.cK _ hi) (congrArg Value.long (congrFun (hW.cj _ hi) 9)) ?_
      refine s_lconst (v := 0) dX3_serve_38 (by decide) ?_
      refine s_lcne (tgt := 48) dX3_serve_39 dX3_serve_40 (by decide) (fun c_39 => ?_) (fun c_39 => ?_)
      · skip
        refine s_lloadn dX3_serve_48 rfl rfl ?_
        exact s_retl dX3_serve_49 rfl (PJ.of (F := f_X3_serve c i) (x := 0) (by unfold f_X3_serve; rw [if_neg c_6, if_neg c_31, if_neg c_39]) hW hF)
      · skip
        refine s_aloadn dX3_serve_43 rfl rfl ?_
        refine s_aloadn dX3_serve_44 rfl rfl ?_
        refine s_cv1G (n := 20) dX3_serve_45 rfl (kv hW.th (by decide) rfl) rfl (by decide) (by decide) (by decide) (by decide) (Nat.le_of_ble_eq_true rfl) (m_X3_close hW hi) (fun r1 S1 hr1 => ?_) (fun x S2 hr => by obtain ⟨e, -⟩ := hr; cases e)
        obtain ⟨e1, hW1, hG1⟩ := hr1
        cases e1
        have hF1 := hF.tr hG1
        refine s_lloadn dX3_serve_48 rfl rfl ?_
        exact s_retl dX3_serve_49 rfl (PJ.of (F := f_X3_serve c i) (x := 0) (by unfold f_X3_serve; rw [if_neg c_6, if_neg c_31, if_pos c_39]) hW1 hF1)
  · skip
    refine s_aloadn dX3_serve_9 rfl rfl ?_
    refine s_aloadn dX3_serve_10 rfl rfl ?_
    refine s_get (v := .int (c.ti 3)) (n := 7) dX3_serve_11 rfl hW.th (congrArg Value.int (congrFun hW.ti 3)) ?_
    refine s_cv1G (n := 18) dX3_serve_14 rfl (kv (hW.cK _ hi) (by decide) rfl) rfl (by decide) (by decide) (by decide) (by decide) (Nat.le_of_ble_eq_true rfl) (m_X0_fallDue hW hi) (fun r2 S2 hr2 => ?_) (fun x S2 hr => by obtain ⟨e, -⟩ := hr; cases e)
    obtain ⟨e2, hW2, hG2⟩ := hr2
    cases e2
    have hF2 := hF.tr hG2
    refine s_aloadn dX3_serve_17 rfl rfl ?_
    refine s_aloadn dX3_serve_18 rfl rfl ?_
    refine s_cv1G (n := 19) dX3_serve_19 rfl (kv hW2.th (by decide) rfl) rfl (by decide) (by decide) (by decide) (by decide) (Nat.le_of_ble_eq_true rfl) (m_X3_payArrears hW2 hi) (fun r3 S3 hr3 => ?_) (fun x S2 hr => by obtain ⟨e, -⟩ := hr; cases e)
    obtain ⟨e3, hW3, hG3⟩ := hr3
    cases e3
    have hF3 := hF2.tr hG3
    refine s_lstoren dX3_serve_22 rfl (by decide) ?_
    refine s_aloadn dX3_serve_23 rfl rfl ?_
    refine s_get (v := .int ((f_X3_payArrears (f_X0_fallDue c i (c.ti 3)) i).2.ci i 7)) (n := 32) dX3_serve_24 rfl (hW3.cK _ hi) (congrArg Value.int (congrFun (hW3.ci _ hi) 7)) ?_
    refine s_aloadn dX3_serve_27 rfl rfl ?_
    refine s_get (v := .int ((f_X3_payArrears (f_X0_fallDue c i (c.ti 3)) i).2.ti 3)) (n := 7) dX3_serve_28 rfl hW3.th (congrArg Value.int (congrFun hW3.ti 3)) ?_
    refine s_icgt (tgt := 48) dX3_serve_31 (by decide) (fun c_31 => ?_) (fun c_31 => ?_)
    · skip
      refine s_lloadn dX3_serve_48 rfl rfl ?_
      exact s_retl dX3_serve_49 rfl (PJ.of (F := f_X3_serve c i) (x := (f_X3_payArrears (f_X0_fallDue c i (c.ti 3)) i).1) (by unfold f_X3_serve; rw [if_pos c_6, if_pos c_31]) hW3 hF3)
    · skip
      refine s_aloadn dX3_serve_34 rfl rfl ?_
      refine s_get (v := .long ((f_X3_payArrears (f_X0_fallDue c i (c.ti 3)) i).2.cj i 9)) (n := 36) dX3_serve_35 rfl (hW3.cK _ hi) (congrArg Value.long (congrFun (hW3.cj _ hi) 9)) ?_
      refine s_lconst (v := 0) dX3_serve_38 (by decide) ?_
      refine s_lcne (tgt := 48) dX3_serve_39 dX3_serve_40 (by decide) (fun c_39 => ?_) (fun c_39 => ?_)
      · skip
        refine s_lloadn dX3_serve_48 rfl rfl ?_
        exact s_retl dX3_serve_49 rfl (PJ.of (F := f_X3_serve c i) (x := (f_X3_payArrears (f_X0_fallDue c i (c.ti 3)) i).1) (by unfold f_X3_serve; rw [if_pos c_6, if_neg c_31, if_neg c_39]) hW3 hF3)
      · skip
        refine s_aloadn dX3_serve_43 rfl rfl ?_
        refine s_aloadn dX3_serve_44 rfl rfl ?_
        refine s_cv1G (n := 20) dX3_serve_45 rfl (kv hW3.th (by decide) rfl) rfl (by decide) (by decide) (by decide) (by decide) (Nat.le_of_ble_eq_true rfl) (m_X3_close hW3 hi) (fun r4 S4 hr4 => ?_) (fun x S2 hr => by obtain ⟨e, -⟩ := hr; cases e)
        obtain ⟨e4, hW4, hG4⟩ := hr4
        cases e4
        have hF4 := hF3.tr hG4
        refine s_lloadn dX3_serve_48 rfl rfl ?_
        exact s_retl dX3_serve_49 rfl (PJ.of (F := f_X3_serve c i) (x := (f_X3_payArrears (f_X0_fallDue c i (c.ti 3)) i).1) (by unfold f_X3_serve; rw [if_pos c_6, if_neg c_31, if_pos c_39]) hW4 hF4)
def g_X3_judgeSuits (c : CC) : Nat → CC
  | 0 => c
  | k + 1 => if (i_X0_isOpen (g_X3_judgeSuits c k) k) = 0 then (g_X3_judgeSuits c k) else (if ((g_X3_judgeSuits c k).ci k 11) = 1 then ((g_X3_judgeSuits c k).pci k 11 2) else (g_X3_judgeSuits c k))
theorem g_X3_judgeSuits_s {c : CC} {k : Nat} : g_X3_judgeSuits c (k + 1) = (if (i_X0_isOpen (g_X3_judgeSuits c k) k) = 0 then (g_X3_judgeSuits c k) else (if ((g_X3_judgeSuits c k).ci k 11) = 1 then ((g_X3_judgeSuits c k).pci k 11 2) else (g_X3_judgeSuits c k)) : CC) := rfl
def f_X3_judgeSuits (n : Nat) (c : CC) : CC := (g_X3_judgeSuits c n)
set_option maxHeartbeats 4000000 in
theorem m_X3_judgeSuits {tm : Nat × Nat} {S : Sto} {w : CAd} {c : CC}  (hW : CW tm S w c)  : Ev tm M_X3_judgeSuits [.ref w.th] S (PV tm w S (f_X3_judgeSuits w.n c)) := by
  have hF : FrC S S := FrC.rf
  refine ev_in ok_X3_judgeSuits (Nat.le_of_ble_eq_true rfl) ?_
  have hn40 := hW.n40
  refine s_iconst (v := 0) dX3_judgeSuits_0 (by decide) ?_
  refine s_istoren dX3_judgeSuits_1 rfl (by decide) ?_
  have LP_2 : ∀ (d k : Nat), k + d = w.n → ∀ (S1 : Sto), CW tm S1 w (g_X3_judgeSuits c k) → FrC S S1 → Wp (Ev tm) tm M_X3_judgeSuits (PV tm w S (f_X3_judgeSuits w.n c)) 2 [(0, .ref w.th), (1, .int (nI k))] [] 0 0 S1 := by
    intro d
    induction d with
    | zero =>
      intro k hkd S1 hW1 hF1
      have hkn : k = w.n := by omega
      subst hkn
      refine s_iloadn dX3_judgeSuits_2 rfl rfl ?_
      refine s_aloadn dX3_judgeSuits_3 rfl rfl ?_
      refine s_getR (n := 4) dX3_judgeSuits_4 rfl hW1.th (fun _ _ _ => rfl) hW1.ral ?_
      refine s_cv0R (n := 3) dX3_judgeSuits_7 rfl (kv hW1.alK (by decide) rfl) rfl (by decide) (by decide) (by decide) (by decide) (Nat.le_of_ble_eq_true rfl) (m_size hW1.lc) ?_
      refine s_icge (tgt := 51) dX3_judgeSuits_10 (by decide) (fun _ => ?_) (fun c => absurd (Int32.le_refl _) c)
      exact s_retv dX3_judgeSuits_51 rfl (PV.of (F := f_X3_judgeSuits w.n c) (by unfold f_X3_judgeSuits; rfl) hW1 hF1)
    | succ d ih =>
      intro k hkd S1 hW1 hF1
      have hlt : k < w.n := by omega
      refine s_iloadn dX3_judgeSuits_2 rfl rfl ?_
      refine s_aloadn dX3_judgeSuits_3 rfl rfl ?_
      refine s_getR (n := 4) dX3_judgeSuits_4 rfl hW1.th (fun _ _ _ => rfl) hW1.ral ?_
      refine s_cv0R (n := 3) dX3_judgeSuits_7 rfl (kv hW1.alK (by decide) rfl) rfl (by decide) (by decide) (by decide) (by decide) (Nat.le_of_ble_eq_true rfl) (m_size hW1.lc) ?_
      refine s_icge (tgt := 51) dX3_judgeSuits_10 (by decide) (fun c => absurd c (nI_ge hlt (by omega))) (fun _ => ?_)
      refine s_aloadn dX3_judgeSuits_13 rfl rfl ?_
      refine s_getR (n := 4) dX3_judgeSuits_14 rfl hW1.th (fun _ _ _ => rfl) hW1.ral ?_
      refine s_iloadn dX3_judgeSuits_17 rfl rfl ?_
      refine s_cv1R (n := 11) dX3_judgeSuits_18 rfl (kv hW1.alK (by decide) rfl) rfl (by decide) (by decide) (by decide) (by decide) (Nat.le_of_ble_eq_true rfl) (m_get hW1.lc hlt) ?_
      refine s_cast (n := 2) dX3_judgeSuits_21 rfl (hW1.cK _ (Nat.lt_of_lt_of_le hlt hW.nm)) ?_
      refine s_astoren dX3_judgeSuits_24 rfl (by decide) ?_
      refine s_aloadn dX3_judgeSuits_25 rfl rfl ?_
      refine s_cv0R (n := 13) dX3_judgeSuits_26 rfl (kv (hW1.cK _ (Nat.lt_of_lt_of_le hlt hW.nm)) (by decide) rfl) rfl (by decide) (by decide) (by decide) (by decide) (Nat.le_of_ble_eq_true rfl) (mi_X0_isOpen hW1 (Nat.lt_of_lt_of_le hlt hW.nm)) ?_
      refine s_ifeq (tgt := 45) dX3_judgeSuits_29 (by decide) (fun c_29 => ?_) (fun c_29 => ?_)
      · skip
        refine s_iinc (v := (nI k) + 1) dX3_judgeSuits_45 rfl (by rfl) (by decide) ?_
        refine s_goto (tgt := 2) dX3_judgeSuits_48 (by decide) ?_
        exact s_sub (lo' := [(0, .ref w.th), (1, .int (nI (k + 1)))]) (List.forall_mem_cons.mpr ⟨rfl, List.forall_mem_cons.mpr ⟨congrArg (fun z => some (Value.int z)) (nI_1 k), fun _ h => absurd h List.not_mem_nil⟩⟩) (Nat.zero_le _) (Nat.zero_le _) (ih (k + 1) (by omega) S1 (by rw [g_X3_judgeSuits_s, if_pos c_29]; exact hW1) hF1)
      · skip
        refine s_aloadn dX3_judgeSuits_32 rfl rfl ?_
        refine s_get (v := .int ((g_X3_judgeSuits c k).ci k 11)) (n := 40) dX3_judgeSuits_33 rfl (hW1.cK _ (Nat.lt_of_lt_of_le hlt hW.nm)) (congrArg Value.int (congrFun (hW1.ci _ (Nat.lt_of_lt_of_le hlt hW.nm)) 11)) ?_
        refine s_iconst (v := 1) dX3_judgeSuits_36 (by decide) ?_
        refine s_icne (tgt := 45) dX3_judgeSuits_37 (by decide) (fun c_37 => ?_) (fun c_37 => ?_)
        · skip
          refine s_iinc (v := (nI k) + 1) dX3_judgeSuits_45 rfl (by rfl) (by decide) ?_
          refine s_goto (tgt := 2) dX3_judgeSuits_48 (by decide) ?_
          exact s_sub (lo' := [(0, .ref w.th), (1, .int (nI (k + 1)))]) (List.forall_mem_cons.mpr ⟨rfl, List.forall_mem_cons.mpr ⟨congrArg (fun z => some (Value.int z)) (nI_1 k), fun _ h => absurd h List.not_mem_nil⟩⟩) (Nat.zero_le _) (Nat.zero_le _) (ih (k + 1) (by omega) S1 (by rw [g_X3_judgeSuits_s, if_neg c_29, if_neg c_37]; exact hW1) hF1)
        · skip
          refine s_aloadn dX3_judgeSuits_40 rfl rfl ?_
          refine s_iconst (v := 2) dX3_judgeSuits_41 (by decide) ?_
          refine s_putI (n := 40) dX3_judgeSuits_42 rfl (hW1.cK _ (Nat.lt_of_lt_of_le hlt hW.nm)) (Or.inl rfl) (fun _ _ _ => rfl) rfl rfl ?_
          have hW2 := hW1.pci (Nat.lt_of_lt_of_le hlt hW.nm) (fun e => absurd e (by decide)) (fun e => absurd e (by decide)) (k := 11) (v := 2)
          have hF2 := hF1.uI (k := 11) (v := 2) (hW1.cK _ (Nat.lt_of_lt_of_le hlt hW.nm)) (kd := 1) (by decide)
          refine s_iinc (v := (nI k) + 1) dX3_judgeSuits_45 rfl (by rfl) (by decide) ?_
          refine s_goto (tgt := 2) dX3_judgeSuits_48 (by decide) ?_
          exact s_sub (lo' := [(0, .ref w.th), (1, .int (nI (k + 1)))]) (List.forall_mem_cons.mpr ⟨rfl, List.forall_mem_cons.mpr ⟨congrArg (fun z => some (Value.int z)) (nI_1 k), fun _ h => absurd h List.not_mem_nil⟩⟩) (Nat.zero_le _) (Nat.zero_le _) (ih (k + 1) (by omega) (uI S1 (w.ca k) 11 2) (by rw [g_X3_judgeSuits_s, if_neg c_29, if_pos c_37]; exact hW2) hF2)
  exact s_sub (lo' := [(0, .ref w.th), (1, .int (nI 0))]) (List.forall_mem_cons.mpr ⟨rfl, List.forall_mem_cons.mpr ⟨rfl, fun _ h => absurd h List.not_mem_nil⟩⟩) (Nat.zero_le _) (Nat.zero_le _) (LP_2 w.n 0 (by omega) S hW hF)
def g_X3_serveRank (c : CC) (rk : Int32) : Nat → Int64 × CC
  | 0 => (0, c)
  | k + 1 => if (i_X0_isOpen (g_X3_serveRank c rk k).2 k) = 0 then ((g_X3_serveRank c rk k).1, (g_X3_serveRank c rk k).2) else (if ((g_X3_serveRank c rk k).2.ci k 2) = rk then (((g_X3_serveRank c rk k).1) + ((f_X3_serve (g_X3_serveRank c rk k).2 k).1), (f_X3_serve (g_X3_serveRank c rk k).2 k).2) else ((g_X3_serveRank c rk k).1, (g_X3_serveRank c rk k).2))
theorem g_X3_serveRank_s {c : CC} {rk : Int32} {k : Nat} : g_X3_serveRank c rk (k + 1) = (if (i_X0_isOpen (g_X3_serveRank c rk k).2 k) = 0 then ((g_X3_serveRank c rk k).1, (g_X3_serveRank c rk k).2) else (if ((g_X3_serveRank c rk k).2.ci k 2) = rk then (((g_X3_serveRank c rk k).1) + ((f_X3_serve (g_X3_serveRank c rk k).2 k).1), (f_X3_serve (g_X3_serveRank c rk k).2 k).2) else ((g_X3_serveRank c rk k).1, (g_X3_serveRank c rk k).2)) : Int64 × CC) := rfl
def f_X3_serveRank (n : Nat) (c : CC) (rk : Int32) : Int64 × CC := ((g_X3_serveRank c rk n).1, (g_X3_serveRank c rk n).2)
set_option maxHeartbeats 4000000 in
theorem m_X3_serveRank {tm : Nat × Nat} {S : Sto} {w : CAd} {c : CC} {rk : Int32} (hW : CW tm S w c)  : Ev tm M_X3_serveRank [.ref w.th, .int rk] S (PJ tm w S (f_X3_serveRank w.n c rk)) := by
  have hF : FrC S S := FrC.rf
  refine ev_in ok_X3_serveRank (Nat.le_of_ble_eq_true rfl) ?_
  have hn40 := hW.n40
  refine s_lconst (v := 0) dX3_serveRank_0 (by decide) ?_
  refine s_lstoren dX3_serveRank_1 rfl (by decide) ?_
  refine s_iconst (v := 0) dX3_serveRank_2 (by decide) ?_
  refine s_istore dX3_serveRank_3 (by decide) ?_
  have LP_5 : ∀ (d k : Nat), k + d = w.n → ∀ (S1 : Sto), CW tm S1 w ((g_X3_serveRank c rk k).2) → FrC S S1 → Wp (Ev tm) tm M_X3_serveRank (PJ tm w S (f_X3_serveRank w.n c rk)) 5 [(0, .ref w.th), (1, .int rk), (2, .long ((g_X3_serveRank c rk k).1)), (4, .int (nI k))] [] 0 0 S1 := by
    intro d
    induction d with
    | zero =>
      intro k hkd S1 hW1 hF1
      have hkn : k = w.n := by omega
      subst hkn
      refine s_iload dX3_serveRank_5 rfl ?_
      refine s_aloadn dX3_serveRank_7 rfl rfl ?_
      refine s_getR (n := 4) dX3_serveRank_8 rfl hW1.th (fun _ _ _ => rfl) hW1.ral ?_
      refine s_cv0R (n := 3) dX3_serveRank_11 rfl (kv hW1.alK (by decide) rfl) rfl (by decide) (by decide) (by decide) (by decide) (Nat.le_of_ble_eq_true rfl) (m_size hW1.lc) ?_
      refine s_icge (tgt := 63) dX3_serveRank_14 (by decide) (fun _ => ?_) (fun c => absurd (Int32.le_refl _) c)
      refine s_lloadn dX3_serveRank_63 rfl rfl ?_
      exact s_retl dX3_serveRank_64 rfl (PJ.of (F := f_X3_serveRank w.n c rk) (x := (g_X3_serveRank c rk w.n).1) (by unfold f_X3_serveRank; rfl) hW1 hF1)
    | succ d ih =>
      intro k hkd S1 hW1 hF1
      have hlt : k < w.n := by omega
      refine s_iload dX3_serveRank_5 rfl ?_
      refine s_aloadn dX3_serveRank_7 rfl rfl ?_
      refine s_getR (n := 4) dX3_serveRank_8 rfl hW1.th (fun _ _ _ => rfl) hW1.ral ?_
      refine s_cv0R (n := 3) dX3_serveRank_11 rfl (kv hW1.alK (by decide) rfl) rfl (by decide) (by decide) (by decide) (by decide) (Nat.le_of_ble_eq_true rfl) (m_size hW1.lc) ?_
      refine s_icge (tgt := 63) dX3_serveRank_14 (by decide) (fun c => absurd c (nI_ge hlt (by omega))) (fun _ => ?_)
      refine s_aloadn dX3_serveRank_17 rfl rfl ?_
      refine s_getR (n := 4) dX3_serveRank_18 rfl hW1.th (fun _ _ _ => rfl) hW1.ral ?_
      refine s_iload dX3_serveRank_21 rfl ?_
      refine s_cv1R (n := 11) dX3_serveRank_23 rfl (kv hW1.alK (by decide) rfl) rfl (by decide) (by decide) (by decide) (by decide) (Nat.le_of_ble_eq_true rfl) (m_get hW1.lc hlt) ?_
      refine s_cast (n := 2) dX3_serveRank_26 rfl (hW1.cK _ (Nat.lt_of_lt_of_le hlt hW.nm)) ?_
      refine s_astore dX3_serveRank_29 (by decide) ?_
      refine s_aload dX3_serveRank_31 rfl ?_
      refine s_cv0R (n := 13) dX3_serveRank_33 rfl (kv (hW1.cK _ (Nat.lt_of_lt_of_le hlt hW.nm)) (by decide) rfl) rfl (by decide) (by decide) (by decide) (by decide) (Nat.le_of_ble_eq_true rfl) (mi_X0_isOpen hW1 (Nat.lt_of_lt_of_le hlt hW.nm)) ?_
      refine s_ifeq (tgt := 57) dX3_serveRank_36 (by decide) (fun c_36 => ?_) (fun c_36 => ?_)
      · skip
        refine s_iinc (v := (nI k) + 1) dX3_serveRank_57 rfl (by rfl) (by decide) ?_
        refine s_goto (tgt := 5) dX3_serveRank_60 (by decide) ?_
        exact s_sub (lo' := [(0, .ref w.th), (1, .int rk), (2, .long ((g_X3_serveRank c rk (k + 1)).1)), (4, .int (nI (k + 1)))]) (List.forall_mem_cons.mpr ⟨rfl, List.forall_mem_cons.mpr ⟨rfl, List.forall_mem_cons.mpr ⟨congrArg (fun z => some (Value.long z)) (Eq.symm (by rw [g_X3_serveRank_s, if_pos c_36])), List.forall_mem_cons.mpr ⟨congrArg (fun z => some (Value.int z)) (nI_1 k), fun _ h => absurd h List.not_mem_nil⟩⟩⟩⟩) (Nat.zero_le _) (Nat.zero_le _) (ih (k + 1) (by omega) S1 (by rw [g_X3_serveRank_s, if_pos c_36]; exact hW1) hF1)
      · skip
        refine s_aload dX3_serveRank_39 rfl ?_
        refine s_get (v := .int ((g_X3_serveRank c rk k).2.ci k 2)) (n := 23) dX3_serveRank_41 rfl (hW1.cK _ (Nat.lt_of_lt_of_le hlt hW.nm)) (congrArg Value.int (congrFun (hW1.ci _ (Nat.lt_of_lt_of_le hlt hW.nm)) 2)) ?_
        refine s_iloadn dX3_serveRank_44 rfl rfl ?_
        refine s_icne (tgt := 57) dX3_serveRank_45 (by decide) (fun c_45 => ?_) (fun c_45 => ?_)
        · skip
          refine s_iinc (v := (nI k) + 1) dX3_serveRank_57 rfl (by rfl) (by decide) ?_
          refine s_goto (tgt := 5) dX3_serveRank_60 (by decide) ?_
          exact s_sub (lo' := [(0, .ref w.th), (1, .int rk), (2, .long ((g_X3_serveRank c rk (k + 1)).1)), (4, .int (nI (k + 1)))]) (List.forall_mem_cons.mpr ⟨rfl, List.forall_mem_cons.mpr ⟨rfl, List.forall_mem_cons.mpr ⟨congrArg (fun z => some (Value.long z)) (Eq.symm (by rw [g_X3_serveRank_s, if_neg c_36, if_neg c_45])), List.forall_mem_cons.mpr ⟨congrArg (fun z => some (Value.int z)) (nI_1 k), fun _ h => absurd h List.not_mem_nil⟩⟩⟩⟩) (Nat.zero_le _) (Nat.zero_le _) (ih (k + 1) (by omega) S1 (by rw [g_X3_serveRank_s, if_neg c_36, if_neg c_45]; exact hW1) hF1)
        · skip
          refine s_lloadn dX3_serveRank_48 rfl rfl ?_
          refine s_aloadn dX3_serveRank_49 rfl rfl ?_
          refine s_aload dX3_serveRank_50 rfl ?_
          refine s_cv1G (n := 21) dX3_serveRank_52 rfl (kv hW1.th (by decide) rfl) rfl (by decide) (by decide) (by decide) (by decide) (Nat.le_of_ble_eq_true rfl) (m_X3_serve hW1 (Nat.lt_of_lt_of_le hlt hW.nm)) (fun r2 S2 hr2 => ?_) (fun x S2 hr => by obtain ⟨e, -⟩ := hr; cases e)
          obtain ⟨e2, hW2, hG2⟩ := hr2
          cases e2
          have hF2 := hF1.tr hG2
          refine s_ladd dX3_serveRank_55 ?_
          refine s_lstoren dX3_serveRank_56 rfl (by decide) ?_
          refine s_iinc (v := (nI k) + 1) dX3_serveRank_57 rfl (by rfl) (by decide) ?_
          refine s_goto (tgt := 5) dX3_serveRank_60 (by decide) ?_
          exact s_sub (lo' := [(0, .ref w.th), (1, .int rk), (2, .long ((g_X3_serveRank c rk (k + 1)).1)), (4, .int (nI (k + 1)))]) (List.forall_mem_cons.mpr ⟨rfl, List.forall_mem_cons.mpr ⟨rfl, List.forall_mem_cons.mpr ⟨congrArg (fun z => some (Value.long z)) (Eq.symm (by rw [g_X3_serveRank_s, if_neg c_36, if_pos c_45])), List.forall_mem_cons.mpr ⟨congrArg (fun z => some (Value.int z)) (nI_1 k), fun _ h => absurd h List.not_mem_nil⟩⟩⟩⟩) (Nat.zero_le _) (Nat.zero_le _) (ih (k + 1) (by omega) S2 (by rw [g_X3_serveRank_s, if_neg c_36, if_pos c_45]; exact hW2) hF2)
  exact s_sub (lo' := [(0, .ref w.th), (1, .int rk), (2, .long ((g_X3_serveRank c rk 0).1)), (4, .int (nI 0))]) (List.forall_mem_cons.mpr ⟨rfl, List.forall_mem_cons.mpr ⟨rfl, List.forall_mem_cons.mpr ⟨rfl, List.forall_mem_cons.mpr ⟨rfl, fun _ h => absurd h List.not_mem_nil⟩⟩⟩⟩) (Nat.zero_le _) (Nat.zero_le _) (LP_5 w.n 0 (by omega) S hW hF)
def g_X3_passYear (n : Nat) (c : CC) : Nat → Int64 × CC
  | 0 => (0, (f_X3_judgeSuits n (((c.ptj 4 ((c.tj 4) + (f_X3_broughtBy  c (c.tj 5)))).ptj 5 (f_X3_grown  (c.ptj 4 ((c.tj 4) + (f_X3_broughtBy  c (c.tj 5)))) (c.tj 5))).pti 3 ((c.ti 3) + 1))))
  | k + 1 => (((g_X3_passYear n c k).1) + ((f_X3_serveRank n (g_X3_passYear n c k).2 (nI k)).1), (f_X3_serveRank n (g_X3_passYear n c k).2 (nI k)).2)
theorem g_X3_passYear_s {n : Nat} {c : CC} {k : Nat} : g_X3_passYear n c (k + 1) = ((((g_X3_passYear n c k).1) + ((f_X3_serveRank n (g_X3_passYear n c k).2 (nI k)).1), (f_X3_serveRank n (g_X3_passYear n c k).2 (nI k)).2) : Int64 × CC) := rfl
def f_X3_passYear (n : Nat) (c : CC) : Int64 × CC := ((g_X3_passYear n c 3).1, (g_X3_passYear n c 3).2)
set_option maxHeartbeats 4000000 in
theorem m_X3_passYear {tm : Nat × Nat} {S : Sto} {w : CAd} {c : CC}  (hW : CW tm S w c)  : Ev tm M_X3_passYear [.ref w.th] S (PJ tm w S (f_X3_passYear w.n c)) := by
  have hF : FrC S S := FrC.rf
  refine ev_in ok_X3_passYear (Nat.le_of_ble_eq_true rfl) ?_
  have hn40 := hW.n40
  refine s_aloadn dX3_passYear_0 rfl rfl ?_
  refine s_dup dX3_passYear_1 rfl ?_
  refine s_get (v := .long (c.tj 4)) (n := 8) dX3_passYear_2 rfl hW.th (congrArg Value.long (congrFun hW.tj 4)) ?_
  refine s_aloadn dX3_passYear_5 rfl rfl ?_
  refine s_aloadn dX3_passYear_6 rfl rfl ?_
  refine s_get (v := .long (c.tj 5)) (n := 9) dX3_passYear_7 rfl hW.th (congrArg Value.long (congrFun hW.tj 5)) ?_
  refine s_cv1R (n := 22) dX3_passYear_10 rfl (kv hW.th (by decide) rfl) rfl (by decide) (by decide) (by decide) (by decide) (Nat.le_of_ble_eq_true rfl) (m_X3_broughtBy hW ) ?_
  refine s_ladd dX3_passYear_13 ?_
  refine s_putJ (n := 8) dX3_passYear_14 rfl hW.th (Or.inl rfl) (fun _ _ _ => rfl) rfl rfl ?_
  have hW1 := hW.ptj (k := 4) (v := (c.tj 4) + (f_X3_broughtBy  c (c.tj 5)))
  have hF1 := hF.uJ (k := 4) (v := (c.tj 4) + (f_X3_broughtBy  c (c.tj 5))) hW.th (kd := 4) (by decide)
  refine s_aloadn dX3_passYear_17 rfl rfl ?_
  refine s_aloadn dX3_passYear_18 rfl rfl ?_
  refine s_aloadn dX3_passYear_19 rfl rfl ?_
  refine s_get (v := .long (c.tj 5)) (n := 9) dX3_passYear_20 rfl hW1.th (congrArg Value.long (congrFun hW1.tj 5)) ?_
  refine s_cv1R (n := 23) dX3_passYear_23 rfl (kv hW1.th (by decide) rfl) rfl (by decide) (by decide) (by decide) (by decide) (Nat.le_of_ble_eq_true rfl) (m_X3_grown hW1 ) ?_
  refine s_putJ (n := 9) dX3_passYear_26 rfl hW1.th (Or.inl rfl) (fun _ _ _ => rfl) rfl rfl ?_
  have hW2 := hW1.ptj (k := 5) (v := (f_X3_grown  (c.ptj 4 ((c.tj 4) + (f_X3_broughtBy  c (c.tj 5)))) (c.tj 5)))
  have hF2 := hF1.uJ (k := 5) (v := (f_X3_grown  (c.ptj 4 ((c.tj 4) + (f_X3_broughtBy  c (c.tj 5)))) (c.tj 5))) hW1.th (kd := 4) (by decide)
  refine s_aloadn dX3_passYear_29 rfl rfl ?_
  refine s_dup dX3_passYear_30 rfl ?_
  refine s_get (v := .int (c.ti 3)) (n := 7) dX3_passYear_31 rfl hW2.th (congrArg Value.int (congrFun hW2.ti 3)) ?_
  refine s_iconst (v := 1) dX3_passYear_34 (by decide) ?_
  refine s_iadd dX3_passYear_35 ?_
  refine s_putI (n := 7) dX3_passYear_36 rfl hW2.th (Or.inl rfl) (fun _ _ _ => rfl) rfl rfl ?_
  have hW3 := hW2.pti (k := 3) (v := (c.ti 3) + 1)
  have hF3 := hF2.uI (k := 3) (v := (c.ti 3) + 1) hW2.th (kd := 4) (by decide)
  refine s_aloadn dX3_passYear_39 rfl rfl ?_
  refine s_cv0G (n := 24) dX3_passYear_40 rfl (kv hW3.th (by decide) rfl) rfl (by decide) (by decide) (by decide) (by decide) (Nat.le_of_ble_eq_true rfl) (m_X3_judgeSuits hW3) (fun r4 S4 hr4 => ?_) (fun x S2 hr => by obtain ⟨e, -⟩ := hr; cases e)
  obtain ⟨e4, hW4, hG4⟩ := hr4
  cases e4
  have hF4 := hF3.tr hG4
  refine s_lconst (v := 0) dX3_passYear_43 (by decide) ?_
  refine s_lstoren dX3_passYear_44 rfl (by decide) ?_
  refine s_iconst (v := 0) dX3_passYear_45 (by decide) ?_
  refine s_istoren dX3_passYear_46 rfl (by decide) ?_
  have LP_47 : ∀ (d k : Nat), k + d = 3 → ∀ (S1 : Sto), CW tm S1 w ((g_X3_passYear w.n c k).2) → FrC S S1 → Wp (Ev tm) tm M_X3_passYear (PJ tm w S (f_X3_passYear w.n c)) 47 [(0, .ref w.th), (1, .long ((g_X3_passYear w.n c k).1)), (3, .int (nI k))] [] 0 0 S1 := by
    intro d
    induction d with
    | zero =>
      intro k hkd S1 hW1 hF1
      have hkn : k = 3 := by omega
      subst hkn
      refine s_iloadn dX3_passYear_47 rfl rfl ?_
      refine s_iconst (v := 2) dX3_passYear_48 (by decide) ?_
      refine s_icgt (tgt := 66) dX3_passYear_49 (by decide) (fun _ => ?_) (fun c => absurd (show (2 : Int32) < nI 3 from by decide) c)
      refine s_lloadn dX3_passYear_66 rfl rfl ?_
      exact s_retl dX3_passYear_67 rfl (PJ.of (F := f_X3_passYear w.n c) (x := (g_X3_passYear w.n c 3).1) (by unfold f_X3_passYear; rfl) hW1 hF1)
    | succ d ih =>
      intro k hkd S1 hW1 hF1
      have hlt : k < 3 := by omega
      refine s_iloadn dX3_passYear_47 rfl rfl ?_
      refine s_iconst (v := 2) dX3_passYear_48 (by decide) ?_
      refine s_icgt (tgt := 66) dX3_passYear_49 (by decide) (fun c => absurd c (nI_nlt (a := 2) (b := k) (by omega) (by decide))) (fun _ => ?_)
      refine s_lloadn dX3_passYear_52 rfl rfl ?_
      refine s_aloadn dX3_passYear_53 rfl rfl ?_
      refine s_iloadn dX3_passYear_54 rfl rfl ?_
      refine s_cv1G (n := 25) dX3_passYear_55 rfl (kv hW1.th (by decide) rfl) rfl (by decide) (by decide) (by decide) (by decide) (Nat.le_of_ble_eq_true rfl) (m_X3_serveRank hW1) (fun r6 S6 hr6 => ?_) (fun x S2 hr => by obtain ⟨e, -⟩ := hr; cases e)
      obtain ⟨e6, hW6, hG6⟩ := hr6
      cases e6
      have hF6 := hF1.tr hG6
      refine s_ladd dX3_passYear_58 ?_
      refine s_lstoren dX3_passYear_59 rfl (by decide) ?_
      refine s_iinc (v := (nI k) + 1) dX3_passYear_60 rfl (by rfl) (by decide) ?_
      refine s_goto (tgt := 47) dX3_passYear_63 (by decide) ?_
      exact s_sub (lo' := [(0, .ref w.th), (1, .long ((g_X3_passYear w.n c (k + 1)).1)), (3, .int (nI (k + 1)))]) (List.forall_mem_cons.mpr ⟨rfl, List.forall_mem_cons.mpr ⟨congrArg (fun z => some (Value.long z)) (Eq.symm (by rw [g_X3_passYear_s])), List.forall_mem_cons.mpr ⟨congrArg (fun z => some (Value.int z)) (nI_1 k), fun _ h => absurd h List.not_mem_nil⟩⟩⟩) (Nat.zero_le _) (Nat.zero_le _) (ih (k + 1) (by omega) S6 (by rw [g_X3_passYear_s]; exact hW6) hF6)
  exact s_sub (lo' := [(0, .ref w.th), (1, .long ((g_X3_passYear w.n c 0).1)), (3, .int (nI 0))]) (List.forall_mem_cons.mpr ⟨rfl, List.forall_mem_cons.mpr ⟨rfl, List.forall_mem_cons.mpr ⟨rfl, fun _ h => absurd h List.not_mem_nil⟩⟩⟩) (Nat.zero_le _) (Nat.zero_le _) (LP_47 3 0 (by omega) S4 hW4 hF4)
