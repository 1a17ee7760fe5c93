/-! THE PROGRAM, 2: lists -/
def f_J9_min_7cf53 (x : Int32) (y : Int32) : Int32 := if y < x then y else x
set_option maxHeartbeats 4000000 in
theorem m_J9_min_7cf53 {tm : Nat × Nat} {S : Sto} {x : Int32} {y : Int32}  : Ev tm M_J9_min_7cf53 [.int x, .int y] S (Rt (some (.int (f_J9_min_7cf53 x y))) S) := by
  refine ev_in ok_J9_min_7cf53 (Nat.le_of_ble_eq_true rfl) ?_
  refine s_iloadn dJ9_min_7cf53_0 rfl rfl ?_
  refine s_iloadn dJ9_min_7cf53_1 rfl rfl ?_
  refine s_icgt (tgt := 9) dJ9_min_7cf53_2 (by decide) (fun c_2 => ?_) (fun c_2 => ?_)
  · skip
    refine s_iloadn dJ9_min_7cf53_9 rfl rfl ?_
    exact s_reti dJ9_min_7cf53_10 rfl rfl ⟨congrArg (fun z => Sum.inl (some (Value.int z))) (Eq.symm (by unfold f_J9_min_7cf53; rw [if_pos c_2])), rfl⟩
  · skip
    refine s_iloadn dJ9_min_7cf53_5 rfl rfl ?_
    refine s_goto (tgt := 10) dJ9_min_7cf53_6 (by decide) ?_
    exact s_reti dJ9_min_7cf53_10 rfl rfl ⟨congrArg (fun z => Sum.inl (some (Value.int z))) (Eq.symm (by unfold f_J9_min_7cf53; rw [if_neg c_2])), rfl⟩
def f_J9_max_7cf53 (x : Int32) (y : Int32) : Int32 := if x < y then y else x
set_option maxHeartbeats 4000000 in
theorem m_J9_max_7cf53 {tm : Nat × Nat} {S : Sto} {x : Int32} {y : Int32}  : Ev tm M_J9_max_7cf53 [.int x, .int y] S (Rt (some (.int (f_J9_max_7cf53 x y))) S) := by
  refine ev_in ok_J9_max_7cf53 (Nat.le_of_ble_eq_true rfl) ?_
  refine s_iloadn dJ9_max_7cf53_0 rfl rfl ?_
  refine s_iloadn dJ9_max_7cf53_1 rfl rfl ?_
  refine s_iclt (tgt := 9) dJ9_max_7cf53_2 (by decide) (fun c_2 => ?_) (fun c_2 => ?_)
  · skip
    refine s_iloadn dJ9_max_7cf53_9 rfl rfl ?_
    exact s_reti dJ9_max_7cf53_10 rfl rfl ⟨congrArg (fun z => Sum.inl (some (Value.int z))) (Eq.symm (by unfold f_J9_max_7cf53; rw [if_pos c_2])), rfl⟩
  · skip
    refine s_iloadn dJ9_max_7cf53_5 rfl rfl ?_
    refine s_goto (tgt := 10) dJ9_max_7cf53_6 (by decide) ?_
    exact s_reti dJ9_max_7cf53_10 rfl rfl ⟨congrArg (fun z => Sum.inl (some (Value.int z))) (Eq.symm (by unfold f_J9_max_7cf53; rw [if_neg c_2])), rfl⟩
def f_J9_min_f86c9 (x : Int64) (y : Int64) : Int64 := if y < x then y else x
set_option maxHeartbeats 4000000 in
theorem m_J9_min_f86c9 {tm : Nat × Nat} {S : Sto} {x : Int64} {y : Int64}  : Ev tm M_J9_min_f86c9 [.long x, .long y] S (Rt (some (.long (f_J9_min_f86c9 x y))) S) := by
  refine ev_in ok_J9_min_f86c9 (Nat.le_of_ble_eq_true rfl) ?_
  refine s_lloadn dJ9_min_f86c9_0 rfl rfl ?_
  refine s_lloadn dJ9_min_f86c9_1 rfl rfl ?_
  refine s_lcgt (tgt := 10) dJ9_min_f86c9_2 dJ9_min_f86c9_3 (by decide) (fun c_2 => ?_) (fun c_2 => ?_)
  · skip
    refine s_lloadn dJ9_min_f86c9_10 rfl rfl ?_
    exact s_retl dJ9_min_f86c9_11 rfl ⟨congrArg (fun z => Sum.inl (some (Value.long z))) (Eq.symm (by unfold f_J9_min_f86c9; rw [if_pos c_2])), rfl⟩
  · skip
    refine s_lloadn dJ9_min_f86c9_6 rfl rfl ?_
    refine s_goto (tgt := 11) dJ9_min_f86c9_7 (by decide) ?_
    exact s_retl dJ9_min_f86c9_11 rfl ⟨congrArg (fun z => Sum.inl (some (Value.long z))) (Eq.symm (by unfold f_J9_min_f86c9; rw [if_neg c_2])), rfl⟩
def f_J9_max_f86c9 (x : Int64) (y : Int64) : Int64 := if x < y then y else x
set_option maxHeartbeats 4000000 in
theorem m_J9_max_f86c9 {tm : Nat × Nat} {S : Sto} {x : Int64} {y : Int64}  : Ev tm M_J9_max_f86c9 [.long x, .long y] S (Rt (some (.long (f_J9_max_f86c9 x y))) S) := by
  refine ev_in ok_J9_max_f86c9 (Nat.le_of_ble_eq_true rfl) ?_
  refine s_lloadn dJ9_max_f86c9_0 rfl rfl ?_
  refine s_lloadn dJ9_max_f86c9_1 rfl rfl ?_
  refine s_lclt (tgt := 10) dJ9_max_f86c9_2 dJ9_max_f86c9_3 (by decide) (fun c_2 => ?_) (fun c_2 => ?_)
  · skip
    refine s_lloadn dJ9_max_f86c9_10 rfl rfl ?_
    exact s_retl dJ9_max_f86c9_11 rfl ⟨congrArg (fun z => Sum.inl (some (Value.long z))) (Eq.symm (by unfold f_J9_max_f86c9; rw [if_pos c_2])), rfl⟩
  · skip
    refine s_lloadn dJ9_max_f86c9_6 rfl rfl ?_
    refine s_goto (tgt := 11) dJ9_max_f86c9_7 (by decide) ?_
    exact s_retl dJ9_max_f86c9_11 rfl ⟨congrArg (fun z => Sum.inl (some (Value.long z))) (Eq.symm (by unfold f_J9_max_f86c9; rw [if_neg c_2])), rfl⟩
set_option maxRecDepth 20000 in
theorem clk_Arrays : Cond.classLink "java/util/Arrays" 2 "java/lang/Object" ∈ UW := uw (i := 443) rfl rfl
set_option maxRecDepth 20000 in
theorem clk_AL : Cond.classLink "java/util/ArrayList" 7 "java/lang/Object" ∈ UW := uw (i := 451) rfl rfl
/-- the list at al holds the n addresses ca 0, ca 1, .. of objects of kind kd -/
def Lst (tm : Nat × Nat) (S : Sto) (al n kd : Nat) (ca : Nat → Nat) : Prop := sK S al = 0 ∧ ∃ ed, sR S al 1 = some ed ∧ ((sK S ed = 9 ∧ 10 ≤ sN S ed) ∨ (ed = tm.1 ∧ n = 0 ∧ sK S ed = 13)) ∧ n ≤ sN S ed ∧ sN S ed ≤ 60 ∧ sI S al 2 = nI n ∧ ∀ i, i < n → sR S ed i = some (ca i) ∧ sK S (ca i) = kd
theorem m_J3_checkIndex {tm : Nat × Nat} {S : Sto} {i n : Int32} (h0 : ¬ i < 0) (h1 : i < n) : Ev tm M_J3_checkIndex_8e157 [.int i, .int n, .null] S (Rt (some (.int i)) S) := by
  refine ev_in ok_J3_checkIndex_8e157 (Nat.le_of_ble_eq_true rfl) ?_
  refine s_iloadn dJ3_checkIndex_8e157_0 rfl rfl ?_
  refine s_iflt (tgt := 9) dJ3_checkIndex_8e157_1 (by decide) (fun c => absurd c h0) (fun _ => ?_)
  refine s_iloadn dJ3_checkIndex_8e157_4 rfl rfl ?_
  refine s_iloadn dJ3_checkIndex_8e157_5 rfl rfl ?_
  refine s_iclt (tgt := 16) dJ3_checkIndex_8e157_6 (by decide) (fun _ => ?_) (fun c => absurd h1 c)
  refine s_iloadn dJ3_checkIndex_8e157_16 rfl rfl ?_
  exact s_reti dJ3_checkIndex_8e157_17 rfl rfl ⟨rfl, rfl⟩
theorem m_J15_checkIndex {tm : Nat × Nat} {S : Sto} {i n : Int32} (h0 : ¬ i < 0) (h1 : i < n) : Ev tm M_J15_checkIndex_7cf53 [.int i, .int n] S (Rt (some (.int i)) S) := by
  refine ev_in ok_J15_checkIndex_7cf53 (Nat.le_of_ble_eq_true rfl) ?_
  refine s_iloadn dJ15_checkIndex_7cf53_0 rfl rfl ?_
  refine s_iloadn dJ15_checkIndex_7cf53_1 rfl rfl ?_
  refine s_null dJ15_checkIndex_7cf53_2 ?_
  refine s_cs3R (n := 12) dJ15_checkIndex_7cf53_3 rfl rfl (by decide) (by decide) (by decide) (by decide) (Nat.le_of_ble_eq_true rfl) (m_J3_checkIndex h0 h1) ?_
  exact s_reti dJ15_checkIndex_7cf53_6 rfl rfl ⟨rfl, rfl⟩
theorem m_size {tm : Nat × Nat} {S : Sto} {al n kd : Nat} {ca : Nat → Nat} (h : Lst tm S al n kd ca) : Ev tm M_Jx4a65c_size_8abf5 [.ref al] S (Rt (some (.int (nI n))) S) := by
  obtain ⟨hk, ed, h1, h2, h3, h4, h5, h6⟩ := h
  refine ev_in ok_Jx4a65c_size_8abf5 (Nat.le_of_ble_eq_true rfl) ?_
  refine s_aloadn dJx4a65c_size_8abf5_0 rfl rfl ?_
  refine s_getI (n := 1) dJx4a65c_size_8abf5_1 rfl hk (fun _ _ _ => rfl) ?_
  rw [h5]
  exact s_reti dJx4a65c_size_8abf5_4 rfl rfl ⟨rfl, rfl⟩
theorem m_elementData {tm : Nat × Nat} {S : Sto} {al n kd i : Nat} {ca : Nat → Nat} (h : Lst tm S al n kd ca) (hi : i < n) : Ev tm M_Jx4a65c_elementData_915e3 [.ref al, .int (nI i)] S (Rt (some (.ref (ca i))) S) := by
  obtain ⟨hk, ed, h1, h2, h3, h4, h5, h6⟩ := h
  have h9 : sK S ed = 9 := by rcases h2 with h | ⟨-, h, -⟩
                              · exact h.1
                              · omega
  refine ev_in ok_Jx4a65c_elementData_915e3 (Nat.le_of_ble_eq_true rfl) ?_
  refine s_aloadn dJx4a65c_elementData_915e3_0 rfl rfl ?_
  refine s_getR (n := 0) dJx4a65c_elementData_915e3_1 rfl hk (fun _ _ _ => rfl) h1 ?_
  refine s_iloadn dJx4a65c_elementData_915e3_4 rfl rfl ?_
  refine s_aald' (j := i) dJx4a65c_elementData_915e3_5 h9 rfl (by omega) (by omega) (h6 i hi).1 ?_
  exact s_reta dJx4a65c_elementData_915e3_6 rfl (Or.inl ⟨_, rfl⟩) ⟨rfl, rfl⟩
theorem m_get {tm : Nat × Nat} {S : Sto} {al n kd i : Nat} {ca : Nat → Nat} (h : Lst tm S al n kd ca) (hi : i < n) : Ev tm M_Jx4a65c_get_915e3 [.ref al, .int (nI i)] S (Rt (some (.ref (ca i))) S) := by
  obtain ⟨hk, ed, h1, h2, h3, h4, h5, h6⟩ := id h
  refine ev_in ok_Jx4a65c_get_915e3 (Nat.le_of_ble_eq_true rfl) ?_
  refine s_iloadn dJx4a65c_get_915e3_0 rfl rfl ?_
  refine s_aloadn dJx4a65c_get_915e3_1 rfl rfl ?_
  refine s_getI (n := 1) dJx4a65c_get_915e3_2 rfl hk (fun _ _ _ => rfl) ?_
  rw [h5]
  refine s_cs2R (n := 13) dJx4a65c_get_915e3_5 rfl rfl (by decide) (by decide) (by decide) (by decide) (Nat.le_of_ble_eq_true rfl) (m_J15_checkIndex (nI_pos (by omega)) (nI_lt hi (by omega))) ?_
  refine s_pop dJx4a65c_get_915e3_8 rfl ?_
  refine s_aloadn dJx4a65c_get_915e3_9 rfl rfl ?_
  refine s_iloadn dJx4a65c_get_915e3_10 rfl rfl ?_
  refine s_cv1R (n := 10) dJx4a65c_get_915e3_11 rfl (kv hk (by decide) rfl) rfl (by decide) (by decide) (by decide) (by decide) (Nat.le_of_ble_eq_true rfl) (m_elementData h hi) ?_
  exact s_reta dJx4a65c_get_915e3_14 rfl (Or.inl ⟨_, rfl⟩) ⟨rfl, rfl⟩
theorem m_copyOf3 {tm : Nat × Nat} {S : Sto} {a0 N ci : Nat} (hk : sK S a0 = 9) (hN : N ≤ 100) (hn : sN S a0 ≤ N) (h1 : 1 ≤ ci) (h3 : ci ≤ 3) (hel : ∀ i y, i < sN S a0 → sR S a0 i = some y → sK S y = ci) : Ev tm M_J7_copyOf_6403c [.ref a0, .int (nI N), .ref tm.2] S (fun o s1 => ∃ a, sK S a = 99 ∧ o = .inl (some (.ref a)) ∧ s1 = uRr (sal S a 9 N) a (va_cpy (sR S a0) (fun _ => none) 0 0 (sN S a0))) := by
  refine ev_in ok_J7_copyOf_6403c (Nat.le_of_ble_eq_true rfl) ?_
  refine s_aloadn dJ7_copyOf_6403c_0 rfl rfl ?_
  refine s_ldm dJ7_copyOf_6403c_1 rfl ?_
  refine s_acne (tgt := 13) dJ7_copyOf_6403c_3 (by decide) (fun c => absurd rfl c) (fun _ => ?_)
  refine s_iloadn dJ7_copyOf_6403c_6 rfl rfl ?_
  refine s_newq (N := N) dJ7_copyOf_6403c_7 clk_Arrays (nI_pos (by omega)) (nI_clamp (by omega)) (by omega) (by decide) (by show N ≤ 100; omega) (fun a ha => ?_)
  have hne : a0 ≠ a := fun e => by rw [e, ha] at hk; cases hk
  refine s_goto (tgt := 24) dJ7_copyOf_6403c_10 (by decide) ?_
  refine s_astoren dJ7_copyOf_6403c_24 rfl (by decide) ?_
  refine s_aloadn dJ7_copyOf_6403c_25 rfl rfl ?_
  refine s_iconst (v := 0) dJ7_copyOf_6403c_26 (by decide) ?_
  refine s_aloadn dJ7_copyOf_6403c_27 rfl rfl ?_
  refine s_iconst (v := 0) dJ7_copyOf_6403c_28 (by decide) ?_
  refine s_aloadn dJ7_copyOf_6403c_29 rfl rfl ?_
  have hk' : sK (sal S a 9 N) a0 = 9 := (up1_ne hne).trans hk
  have hn' : sN (sal S a 9 N) a0 = sN S a0 := up1_ne hne
  refine s_alen dJ7_copyOf_6403c_30 (by rw [hk']; decide) (by rw [hk']; decide) ?_
  rw [hn']
  refine s_iloadn dJ7_copyOf_6403c_31 rfl rfl ?_
  refine s_cs2R (n := 6) dJ7_copyOf_6403c_32 rfl rfl (by decide) (by decide) (by decide) (Nat.zero_le _) (Nat.le_of_ble_eq_true rfl) m_J9_min_7cf53 ?_
  have hmin : f_J9_min_7cf53 (Int32.ofNat (sN S a0)) (nI N) = nI (sN S a0) := by
    unfold f_J9_min_7cf53
    exact if_neg (nI_nlt hn (by omega))
  rw [hmin]
  have hcl : (nI (sN S a0)).toNatClampNeg = sN S a0 := nI_clamp (by omega)
  refine s_acpy (ci := ci) dJ7_copyOf_6403c_35 rfl sK_sal hk' h1 h3 (by decide) (by decide) (nI_pos (by omega)) (by rw [hcl, hn']; exact Nat.le_of_eq (Nat.zero_add _)) (by rw [hcl, sN_sal]; show 0 + _ ≤ _; omega) (fun i hi y hy => ?_) (by decide) (by decide) (by decide) ?_
  · rw [hcl] at hi
    have hy : sR (sal S a 9 N) a0 (0 + i) = some y := hy
    have e : sR (sal S a 9 N) a0 = sR S a0 := upr_ne hne
    rw [e, Nat.zero_add] at hy
    have hy2 := hel i y hi hy
    have hya : y ≠ a := fun e => by rw [e, ha] at hy2; omega
    exact (up1_ne hya).trans hy2
  · refine s_aloadn dJ7_copyOf_6403c_38 rfl rfl ?_
    refine s_reta dJ7_copyOf_6403c_39 rfl (Or.inr ⟨_, rfl⟩) ⟨a, ha, rfl, ?_⟩
    have e1 : sR (sal S a 9 N) a0 = sR S a0 := upr_ne hne
    rw [e1, sR_sal, hcl]
    rfl
theorem m_copyOf2 {tm : Nat × Nat} {S : Sto} {a0 N ci : Nat} (hk : sK S a0 = 9) (hN : N ≤ 100) (hn : sN S a0 ≤ N) (h1 : 1 ≤ ci) (h3 : ci ≤ 3) (hel : ∀ i y, i < sN S a0 → sR S a0 i = some y → sK S y = ci) : Ev tm M_J7_copyOf_1904c [.ref a0, .int (nI N)] S (fun o s1 => ∃ a, sK S a = 99 ∧ o = .inl (some (.ref a)) ∧ s1 = uRr (sal S a 9 N) a (va_cpy (sR S a0) (fun _ => none) 0 0 (sN S a0))) := by
  refine ev_in ok_J7_copyOf_1904c (Nat.le_of_ble_eq_true rfl) ?_
  refine s_aloadn dJ7_copyOf_1904c_0 rfl rfl ?_
  refine s_iloadn dJ7_copyOf_1904c_1 rfl rfl ?_
  refine s_aloadn dJ7_copyOf_1904c_2 rfl rfl ?_
  refine s_getc dJ7_copyOf_1904c_3 rfl hk (by decide) (by decide) (Nat.le_of_ble_eq_true rfl) ?_
  refine s_cs3G (n := 7) dJ7_copyOf_1904c_6 rfl rfl (by decide) (by decide) (by decide) (by decide) (Nat.le_of_ble_eq_true rfl) (m_copyOf3 hk hN hn h1 h3 hel) (fun r S1 hr => ?_) (fun x S1 hr => ?_)
  · obtain ⟨a, ha, e, e1⟩ := hr
    cases e
    exact s_reta dJ7_copyOf_1904c_9 rfl (Or.inr ⟨_, rfl⟩) ⟨a, ha, rfl, e1⟩
  · obtain ⟨a, ha, e, e1⟩ := hr
    cases e
theorem m_newLength {tm : Nat × Nat} {S : Sto} {o : Nat} (h1 : 1 ≤ o) (ho : o ≤ 60) : Ev tm M_J8_newLength_cabcc [.int (nI o), .int (nI 1), .int (nI (o / 2))] S (Rt (some (.int (nI (o + (if o / 2 ≤ 1 then 1 else o / 2))))) S) := by
  refine ev_in ok_J8_newLength_cabcc (Nat.le_of_ble_eq_true rfl) ?_
  refine s_iloadn dJ8_newLength_cabcc_0 rfl rfl ?_
  refine s_iloadn dJ8_newLength_cabcc_1 rfl rfl ?_
  refine s_iloadn dJ8_newLength_cabcc_2 rfl rfl ?_
  refine s_cs2R (n := 4) dJ8_newLength_cabcc_3 rfl rfl (by decide) (by decide) (by decide) (by decide) (Nat.le_of_ble_eq_true rfl) m_J9_max_7cf53 ?_
  have hmax : f_J9_max_7cf53 (nI 1) (nI (o / 2)) = nI (if o / 2 ≤ 1 then 1 else o / 2) := by
    unfold f_J9_max_7cf53
    by_cases c : o / 2 ≤ 1
    · rw [if_pos c, if_neg (nI_nlt c (by decide))]
    · rw [if_neg c, if_pos (nI_lt (by omega) (by omega))]
  rw [hmax]
  refine s_iadd dJ8_newLength_cabcc_6 ?_
  rw [nI_add]
  have hb : o + (if o / 2 ≤ 1 then 1 else o / 2) ≤ 100 ∧ 1 ≤ o + (if o / 2 ≤ 1 then 1 else o / 2) := by split <;> omega
  generalize o + (if o / 2 ≤ 1 then 1 else o / 2) = z at hb ⊢
  refine s_istoren dJ8_newLength_cabcc_7 rfl (by decide) ?_
  refine s_iconst (v := 0) dJ8_newLength_cabcc_8 (by decide) ?_
  refine s_iloadn dJ8_newLength_cabcc_9 rfl rfl ?_
  refine s_icge (tgt := 21) dJ8_newLength_cabcc_10 (by decide) (fun c => absurd c (nI_nle (by omega) (by omega))) (fun _ => ?_)
  refine s_iloadn dJ8_newLength_cabcc_13 rfl rfl ?_
  refine s_ldc (v := 2147483639) dJ8_newLength_cabcc_14 cst_RJ8_200 ?_
  refine s_icgt (tgt := 21) dJ8_newLength_cabcc_16 (by decide) (fun c => absurd c (nI_nlt (a := 2147483639) (b := z) (by omega) (by decide))) (fun _ => ?_)
  refine s_iloadn dJ8_newLength_cabcc_19 rfl rfl ?_
  exact s_reti dJ8_newLength_cabcc_20 rfl rfl ⟨rfl, rfl⟩
/-- what a list's growth leaves: a new row that begins with the old one -/
def Grw (S S1 : Sto) (al n : Nat) (ed0 : Nat) : Prop := ∃ a N, sK S a = 99 ∧ n < N ∧ 10 ≤ N ∧ N ≤ 60 ∧ S1 = uR (uRr (sal S a 9 N) a (fun j => if j < n then sR S ed0 j else none)) al 1 (some a)

theorem m_grow1 {tm : Nat × Nat} {S : Sto} {al ed n ci : Nat} (hk : sK S al = 0) (h1 : sR S al 1 = some ed) (hn : n ≤ 40) (he : (sK S ed = 9 ∧ sN S ed = n ∧ 10 ≤ n) ∨ (ed = tm.1 ∧ n = 0 ∧ sK S ed = 13)) (hc1 : 1 ≤ ci) (hc3 : ci ≤ 3) (hel : ∀ i y, i < n → sR S ed i = some y → sK S y = ci) : Ev tm M_Jx4a65c_grow_92f84 [.ref al, .int (nI (n + 1))] S (fun o s1 => ∃ a N, sK S a = 99 ∧ n < N ∧ 10 ≤ N ∧ N ≤ 60 ∧ o = .inl (some (.ref a)) ∧ s1 = uR (uRr (sal S a 9 N) a (fun j => if j < n then sR S ed j else none)) al 1 (some a)) := by
  refine ev_in ok_Jx4a65c_grow_92f84 (Nat.le_of_ble_eq_true rfl) ?_
  refine s_aloadn dJx4a65c_grow_92f84_0 rfl rfl ?_
  refine s_getR (n := 0) dJx4a65c_grow_92f84_1 rfl hk (fun _ _ _ => rfl) h1 ?_
  rcases he with ⟨h9, hN, h2⟩ | ⟨e, h0, h13⟩
  · refine s_alen dJx4a65c_grow_92f84_4 (by rw [h9]; decide) (by rw [h9]; decide) ?_
    rw [hN]
    refine s_istoren dJx4a65c_grow_92f84_5 rfl (by decide) ?_
    refine s_iloadn dJx4a65c_grow_92f84_6 rfl rfl ?_
    refine s_ifgt (tgt := 20) dJx4a65c_grow_92f84_7 (by decide) (fun _ => ?_) (fun c => absurd (show (0 : Int32) < nI n from nI_lt (a := 0) (by omega) (by omega)) c)
    refine s_iloadn dJx4a65c_grow_92f84_20 rfl rfl ?_
    refine s_iloadn dJx4a65c_grow_92f84_21 rfl rfl ?_
    refine s_iloadn dJx4a65c_grow_92f84_22 rfl rfl ?_
    refine s_isub dJx4a65c_grow_92f84_23 ?_
    refine s_iloadn dJx4a65c_grow_92f84_24 rfl rfl ?_
    refine s_iconst (v := 1) dJx4a65c_grow_92f84_25 (by decide) ?_
    refine s_ishr dJx4a65c_grow_92f84_26 ?_
    have e1 : nI (n + 1) - Int32.ofNat n = nI 1 := by
      have k := pk_sub (a := n + 1) (b := n) (by omega)
      rw [Nat.add_sub_cancel_left] at k
      exact k
    have e2 : Int32.ofNat n >>> ((1 : Int32) &&& 31) = nI (n / 2) := by
      have k := pk_shrN (n := n) (by omega) ((1 : Int32) &&& 31) 1 (by decide)
      rw [Nat.pow_one] at k
      exact k
    rw [e1, e2]
    refine s_cs3R (n := 8) dJx4a65c_grow_92f84_27 rfl rfl (by decide) (by decide) (by decide) (by decide) (Nat.le_of_ble_eq_true rfl) (m_newLength (o := n) (by omega) (by omega)) ?_
    have hb : n + (if n / 2 ≤ 1 then 1 else n / 2) ≤ 60 ∧ n < n + (if n / 2 ≤ 1 then 1 else n / 2) := by split <;> omega
    generalize n + (if n / 2 ≤ 1 then 1 else n / 2) = N at hb ⊢
    refine s_istoren dJx4a65c_grow_92f84_30 rfl (by decide) ?_
    refine s_aloadn dJx4a65c_grow_92f84_31 rfl rfl ?_
    refine s_aloadn dJx4a65c_grow_92f84_32 rfl rfl ?_
    refine s_getR (n := 0) dJx4a65c_grow_92f84_33 rfl hk (fun _ _ _ => rfl) h1 ?_
    refine s_iloadn dJx4a65c_grow_92f84_36 rfl rfl ?_
    refine s_cs2G (n := 9) dJx4a65c_grow_92f84_37 rfl rfl (by decide) (by decide) (by decide) (by decide) (Nat.le_of_ble_eq_true rfl) (m_copyOf2 (N := N) h9 (by omega) (by omega) hc1 hc3 (by rw [hN]; exact hel)) (fun r S1 hr => ?_) (fun x S1 hr => by obtain ⟨a, ha, e, e1⟩ := hr; cases e)
    obtain ⟨a, ha, e, es⟩ := hr
    cases e
    subst es
    have hne : al ≠ a := fun e => by rw [e, ha] at hk; cases hk
    refine s_dupx1 dJx4a65c_grow_92f84_40 rfl rfl ?_
    refine s_putR (n := 0) dJx4a65c_grow_92f84_41 rfl (show sK (sal S a 9 N) al = 0 from (up1_ne hne).trans hk) (Or.inl rfl) (fun _ _ _ => rfl) rfl rfl ?_
    refine s_reta dJx4a65c_grow_92f84_44 rfl (Or.inr ⟨_, rfl⟩) ⟨a, N, ha, hb.2, by omega, hb.1, rfl, ?_⟩
    rw [hN]
    have ec : va_cpy (sR S ed) (fun _ => none) 0 0 n = (fun j => if j < n then sR S ed j else none) := by
      funext j
      simp [va_cpy]
    rw [ec]
  · subst e
    subst h0
    refine s_elen dJx4a65c_grow_92f84_4 h13 ?_
    refine s_istoren dJx4a65c_grow_92f84_5 rfl (by decide) ?_
    refine s_iloadn dJx4a65c_grow_92f84_6 rfl rfl ?_
    refine s_ifgt (tgt := 20) dJx4a65c_grow_92f84_7 (by decide) (fun c => absurd c (by decide)) (fun _ => ?_)
    refine s_aloadn dJx4a65c_grow_92f84_10 rfl rfl ?_
    refine s_getR (n := 0) dJx4a65c_grow_92f84_11 rfl hk (fun _ _ _ => rfl) h1 ?_
    refine s_gets dJx4a65c_grow_92f84_14 rfl ?_
    refine s_aceq (tgt := 45) dJx4a65c_grow_92f84_17 (by decide) (fun _ => ?_) (fun c => absurd rfl c)
    refine s_aloadn dJx4a65c_grow_92f84_45 rfl rfl ?_
    refine s_bipush (v := 10) dJx4a65c_grow_92f84_46 (by decide) ?_
    refine s_iloadn dJx4a65c_grow_92f84_48 rfl rfl ?_
    refine s_cs2R (n := 10) dJx4a65c_grow_92f84_49 rfl rfl (by decide) (by decide) (by decide) (by decide) (Nat.le_of_ble_eq_true rfl) m_J9_max_7cf53 ?_
    have e10 : f_J9_max_7cf53 10 (nI (0 + 1)) = 10 := by decide
    rw [e10]
    refine s_newq (N := 10) dJx4a65c_grow_92f84_52 clk_AL (by decide) (by decide) (by decide) (by decide) (by decide) (fun a ha => ?_)
    have hne : al ≠ a := fun e => by rw [e, ha] at hk; cases hk
    refine s_dupx1 dJx4a65c_grow_92f84_55 rfl rfl ?_
    refine s_putR (n := 0) dJx4a65c_grow_92f84_56 rfl (show sK (sal S a 9 10) al = 0 from (up1_ne hne).trans hk) (Or.inl rfl) (fun _ _ _ => rfl) rfl rfl ?_
    refine s_reta dJx4a65c_grow_92f84_59 rfl (Or.inr ⟨_, rfl⟩) ⟨a, 10, ha, by decide, by decide, by decide, rfl, ?_⟩
    have ec : upr (sR (sal S a 9 10)) a (fun j => if j < 0 then sR S tm.1 j else none) = sR (sal S a 9 10) := by
      funext b
      by_cases hb : b = a
      · subst hb
        rw [upr_self]
        show _ = upr _ _ _ _
        rw [upr_self]
        funext j
        exact if_neg (Nat.not_lt_zero j)
      · exact upr_ne hb
    show uR (sal S a 9 10) al 1 (some a) = uR (uRr (sal S a 9 10) a _) al 1 (some a)
    unfold uRr
    rw [ec]
theorem m_grow0 {tm : Nat × Nat} {S : Sto} {al ed n ci : Nat} (hk : sK S al = 0) (h1 : sR S al 1 = some ed) (hs : sI S al 2 = nI n) (hn : n ≤ 40) (he : (sK S ed = 9 ∧ sN S ed = n ∧ 10 ≤ n) ∨ (ed = tm.1 ∧ n = 0 ∧ sK S ed = 13)) (hc1 : 1 ≤ ci) (hc3 : ci ≤ 3) (hel : ∀ i y, i < n → sR S ed i = some y → sK S y = ci) : Ev tm M_Jx4a65c_grow_d5877 [.ref al] S (fun o s1 => ∃ a N, sK S a = 99 ∧ n < N ∧ 10 ≤ N ∧ N ≤ 60 ∧ o = .inl (some (.ref a)) ∧ s1 = uR (uRr (sal S a 9 N) a (fun j => if j < n then sR S ed j else none)) al 1 (some a)) := by
  refine ev_in ok_Jx4a65c_grow_d5877 (Nat.le_of_ble_eq_true rfl) ?_
  refine s_aloadn dJx4a65c_grow_d5877_0 rfl rfl ?_
  refine s_aloadn dJx4a65c_grow_d5877_1 rfl rfl ?_
  refine s_getI (n := 1) dJx4a65c_grow_d5877_2 rfl hk (fun _ _ _ => rfl) ?_
  refine s_iconst (v := 1) dJx4a65c_grow_d5877_5 (by decide) ?_
  refine s_iadd dJx4a65c_grow_d5877_6 ?_
  rw [hs, nI_1]
  refine s_cv1G (n := 4) dJx4a65c_grow_d5877_7 rfl (kv hk (by decide) rfl) rfl (by decide) (by decide) (by decide) (by decide) (Nat.le_of_ble_eq_true rfl) (m_grow1 hk h1 hn he hc1 hc3 hel) (fun r S1 hr => ?_) (fun x S1 hr => by obtain ⟨a, N, ha, g1, g2, g3, e, e1⟩ := hr; cases e)
  obtain ⟨a, N, ha, g1, g2, g3, e, es⟩ := hr
  cases e
  exact s_reta dJx4a65c_grow_d5877_10 rfl (Or.inr ⟨_, rfl⟩) ⟨a, N, ha, g1, g2, g3, rfl, es⟩
