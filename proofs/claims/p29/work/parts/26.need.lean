/-! THE PROGRAM, 7: what throws -/
abbrev rng (x l m : Int32) : Prop := l ≤ x ∧ x ≤ m
abbrev inr (x : Int32) (n : Nat) : Prop := 0 ≤ x ∧ x < nI n
theorem inr_lt {x : Int32} {n : Nat} (h : inr x n) (hn : n ≤ 40) : ix x < n := ix_of h.1 h.2 (by omega)
theorem inr_ix {x : Int32} {n : Nat} (h : inr x n) : nI (ix x) = x := ix_nI h.1
theorem i32_nlt {a b : Int32} (h : a ≤ b) : ¬ b < a := Int32.not_lt.mpr h
theorem i32_nle {a b : Int32} (h : a < b) : ¬ b ≤ a := Int32.not_le.mpr h
theorem i32_le {a b : Int32} (h : ¬ b < a) : a ≤ b := Int32.not_lt.mp h
theorem i32_lt {a b : Int32} (h : ¬ b ≤ a) : a < b := Int32.not_le.mp h
theorem kd_le {x : Int32} (h : x < nI 5) : x ≤ 4 := by
  rw [Int32.lt_iff_toInt_lt, nI_toInt (by decide)] at h
  rw [Int32.le_iff_toInt_le]
  show _ ≤ (4 : Int)
  omega
theorem kd_lt {x : Int32} (h : x ≤ 4) : x < nI 5 := by
  rw [Int32.le_iff_toInt_le] at h
  have h : x.toInt ≤ 4 := h
  rw [Int32.lt_iff_toInt_lt, nI_toInt (by decide)]
  omega
theorem m_needRange_ok {tm : Nat × Nat} {S : Sto} {x l m : Int32} (h : rng x l m) : Ev tm M_X3_needRange [.int x, .int l, .int m] S (Rt none S) := by
  refine ev_in ok_X3_needRange (Nat.le_of_ble_eq_true rfl) ?_
  refine s_iloadn dX3_needRange_0 rfl rfl ?_
  refine s_iloadn dX3_needRange_1 rfl rfl ?_
  refine s_iclt (tgt := 10) dX3_needRange_2 (by decide) (fun c => absurd c (i32_nlt h.1)) (fun _ => ?_)
  refine s_iloadn dX3_needRange_5 rfl rfl ?_
  refine s_iloadn dX3_needRange_6 rfl rfl ?_
  refine s_icle (tgt := 21) dX3_needRange_7 (by decide) (fun _ => ?_) (fun c => absurd h.2 c)
  exact s_retv dX3_needRange_21 rfl ⟨rfl, rfl⟩
theorem m_needRange_no {tm : Nat × Nat} {S : Sto} {x l m : Int32} (h : ¬ rng x l m) : Ev tm M_X3_needRange [.int x, .int l, .int m] S (Th 1 S) := by
  refine ev_in ok_X3_needRange (Nat.le_of_ble_eq_true rfl) ?_
  refine s_iloadn dX3_needRange_0 rfl rfl ?_
  refine s_iloadn dX3_needRange_1 rfl rfl ?_
  have ht : ∀ (lo : Lv), Wp (Ev tm) tm M_X3_needRange (Th 1 S) 10 lo [] (mC M_X3_needRange) (mS M_X3_needRange) S := fun lo => s_thr (x := 1) ⟨rfl, rfl, by decide, by decide, 363, 367, 383, _, by decide, List.mem_of_getElem? (i := 0) rfl, dX3_needRange_10, dX3_needRange_13, Or.inr ⟨dX3_needRange_14, dX3_needRange_17, dX3_needRange_20⟩⟩ (by decide) (by decide) (by decide) ⟨rfl, rfl⟩
  refine s_iclt (tgt := 10) dX3_needRange_2 (by decide) (fun _ => ht _) (fun c1 => ?_)
  refine s_iloadn dX3_needRange_5 rfl rfl ?_
  refine s_iloadn dX3_needRange_6 rfl rfl ?_
  exact s_icle (tgt := 21) dX3_needRange_7 (by decide) (fun c => absurd ⟨i32_le c1, c⟩ h) (fun _ => ht _)
theorem m_needKind_ok {tm : Nat × Nat} {S : Sto} {x : Int32} (h : inr x 5) : Ev tm M_X3_needKind [.int x] S (Rt none S) := by
  refine ev_in ok_X3_needKind (Nat.le_of_ble_eq_true rfl) ?_
  refine s_iloadn dX3_needKind_0 rfl rfl ?_
  refine s_iflt (tgt := 9) dX3_needKind_1 (by decide) (fun c => absurd c (i32_nlt h.1)) (fun _ => ?_)
  refine s_iloadn dX3_needKind_4 rfl rfl ?_
  refine s_iconst (v := 4) dX3_needKind_5 (by decide) ?_
  refine s_icle (tgt := 20) dX3_needKind_6 (by decide) (fun _ => ?_) (fun c => absurd (kd_le h.2) c)
  exact s_retv dX3_needKind_20 rfl ⟨rfl, rfl⟩
theorem m_needKind_no {tm : Nat × Nat} {S : Sto} {x : Int32} (h : ¬ inr x 5) : Ev tm M_X3_needKind [.int x] S (Th 3 S) := by
  refine ev_in ok_X3_needKind (Nat.le_of_ble_eq_true rfl) ?_
  refine s_iloadn dX3_needKind_0 rfl rfl ?_
  have ht : ∀ (lo : Lv), Wp (Ev tm) tm M_X3_needKind (Th 3 S) 9 lo [] (mC M_X3_needKind) (mS M_X3_needKind) S := fun lo => s_thr (x := 3) ⟨rfl, rfl, by decide, by decide, 311, 315, 381, _, by decide, List.mem_of_getElem? (i := 5) rfl, dX3_needKind_9, dX3_needKind_12, Or.inr ⟨dX3_needKind_13, dX3_needKind_16, dX3_needKind_19⟩⟩ (by decide) (by decide) (by decide) ⟨rfl, rfl⟩
  refine s_iflt (tgt := 9) dX3_needKind_1 (by decide) (fun _ => ht _) (fun c1 => ?_)
  refine s_iloadn dX3_needKind_4 rfl rfl ?_
  refine s_iconst (v := 4) dX3_needKind_5 (by decide) ?_
  exact s_icle (tgt := 20) dX3_needKind_6 (by decide) (fun c => absurd ⟨i32_le c1, kd_lt c⟩ h) (fun _ => ht _)
theorem m_needRoom_ok {tm : Nat × Nat} {S : Sto} {w : CAd} {c : CC} {k : Int32} (hW : CW tm S w c) (h : nI w.n + k ≤ 40) : Ev tm M_X3_needRoom [.ref w.th, .int k] S (Rt none S) := by
  have hn40 := hW.n40
  refine ev_in ok_X3_needRoom (Nat.le_of_ble_eq_true rfl) ?_
  refine s_aloadn dX3_needRoom_0 rfl rfl ?_
  refine s_getR (n := 4) dX3_needRoom_1 rfl hW.th (fun _ _ _ => rfl) hW.ral ?_
  refine s_cv0R (n := 3) dX3_needRoom_4 rfl (kv hW.alK (by decide) rfl) rfl (by decide) (by decide) (by decide) (by decide) (Nat.le_of_ble_eq_true rfl) (m_size hW.lc) ?_
  refine s_iloadn dX3_needRoom_7 rfl rfl ?_
  refine s_iadd dX3_needRoom_8 ?_
  refine s_bipush (v := 40) dX3_needRoom_9 (by decide) ?_
  refine s_icle (tgt := 25) dX3_needRoom_11 (by decide) (fun _ => ?_) (fun c => ?_)
  · exact s_retv dX3_needRoom_25 rfl ⟨rfl, rfl⟩
  · exact absurd h c
theorem m_needRoom_no {tm : Nat × Nat} {S : Sto} {w : CAd} {c : CC} {k : Int32} (hW : CW tm S w c) (h : ¬ nI w.n + k ≤ 40) : Ev tm M_X3_needRoom [.ref w.th, .int k] S (Th 2 S) := by
  have hn40 := hW.n40
  refine ev_in ok_X3_needRoom (Nat.le_of_ble_eq_true rfl) ?_
  refine s_aloadn dX3_needRoom_0 rfl rfl ?_
  refine s_getR (n := 4) dX3_needRoom_1 rfl hW.th (fun _ _ _ => rfl) hW.ral ?_
  refine s_cv0R (n := 3) dX3_needRoom_4 rfl (kv hW.alK (by decide) rfl) rfl (by decide) (by decide) (by decide) (by decide) (Nat.le_of_ble_eq_true rfl) (m_size hW.lc) ?_
  refine s_iloadn dX3_needRoom_7 rfl rfl ?_
  refine s_iadd dX3_needRoom_8 ?_
  refine s_bipush (v := 40) dX3_needRoom_9 (by decide) ?_
  refine s_icle (tgt := 25) dX3_needRoom_11 (by decide) (fun c => ?_) (fun _ => ?_)
  · exact absurd c h
  · exact s_thr (x := 2) ⟨rfl, rfl, by decide, by decide, 93, 97, 379, _, by decide, List.mem_of_getElem? (i := 1) rfl, dX3_needRoom_14, dX3_needRoom_17, Or.inr ⟨dX3_needRoom_18, dX3_needRoom_21, dX3_needRoom_24⟩⟩ (by decide) (by decide) (by decide) ⟨rfl, rfl⟩
theorem m_claimAt_ok {tm : Nat × Nat} {S : Sto} {w : CAd} {c : CC} {k : Int32} (hW : CW tm S w c) (h : inr k w.n) : Ev tm M_X3_claimAt [.ref w.th, .int k] S (Rt (some (.ref (w.ca (ix k)))) S) := by
  refine ev_in ok_X3_claimAt (Nat.le_of_ble_eq_true rfl) ?_
  refine s_iloadn dX3_claimAt_0 rfl rfl ?_
  refine s_iflt (tgt := 15) dX3_claimAt_1 (by decide) (fun c => absurd c (i32_nlt h.1)) (fun _ => ?_)
  refine s_iloadn dX3_claimAt_4 rfl rfl ?_
  refine s_aloadn dX3_claimAt_5 rfl rfl ?_
  refine s_getR (n := 4) dX3_claimAt_6 rfl hW.th (fun _ _ _ => rfl) hW.ral ?_
  refine s_cv0R (n := 3) dX3_claimAt_9 rfl (kv hW.alK (by decide) rfl) rfl (by decide) (by decide) (by decide) (by decide) (Nat.le_of_ble_eq_true rfl) (m_size hW.lc) ?_
  refine s_iclt (tgt := 26) dX3_claimAt_12 (by decide) (fun _ => ?_) (fun c => absurd h.2 c)
  refine s_aloadn dX3_claimAt_26 rfl rfl ?_
  refine s_getR (n := 4) dX3_claimAt_27 rfl hW.th (fun _ _ _ => rfl) hW.ral ?_
  refine s_iloadn dX3_claimAt_30 rfl rfl ?_
  have hg := m_get hW.lc (inr_lt h hW.n40)
  rw [inr_ix h] at hg
  refine s_cv1R (n := 11) dX3_claimAt_31 rfl (kv hW.alK (by decide) rfl) rfl (by decide) (by decide) (by decide) (by decide) (Nat.le_of_ble_eq_true rfl) hg ?_
  refine s_cast (n := 2) dX3_claimAt_34 rfl (lst_kd hW.lc (inr_lt h hW.n40)) ?_
  exact s_reta dX3_claimAt_37 rfl (Or.inl ⟨_, rfl⟩) ⟨rfl, rfl⟩
theorem m_claimAt_no {tm : Nat × Nat} {S : Sto} {w : CAd} {c : CC} {k : Int32} (hW : CW tm S w c) (h : ¬ inr k w.n) : Ev tm M_X3_claimAt [.ref w.th, .int k] S (Th 3 S) := by
  refine ev_in ok_X3_claimAt (Nat.le_of_ble_eq_true rfl) ?_
  refine s_iloadn dX3_claimAt_0 rfl rfl ?_
  have ht : ∀ (lo : Lv) (bc bs : Nat), 1 ≤ bc → 6 ≤ bs → Wp (Ev tm) tm M_X3_claimAt (Th 3 S) 15 lo [] bc bs S := fun lo bc bs h1 h2 => s_thr (x := 3) ⟨rfl, rfl, by decide, by decide, 311, 315, 373, _, by decide, List.mem_of_getElem? (i := 2) rfl, dX3_claimAt_15, dX3_claimAt_18, Or.inr ⟨dX3_claimAt_19, dX3_claimAt_22, dX3_claimAt_25⟩⟩ (by decide) h1 h2 ⟨rfl, rfl⟩
  refine s_iflt (tgt := 15) dX3_claimAt_1 (by decide) (fun _ => ht _ _ _ (by decide) (by decide)) (fun c1 => ?_)
  refine s_iloadn dX3_claimAt_4 rfl rfl ?_
  refine s_aloadn dX3_claimAt_5 rfl rfl ?_
  refine s_getR (n := 4) dX3_claimAt_6 rfl hW.th (fun _ _ _ => rfl) hW.ral ?_
  refine s_cv0R (n := 3) dX3_claimAt_9 rfl (kv hW.alK (by decide) rfl) rfl (by decide) (by decide) (by decide) (by decide) (Nat.le_of_ble_eq_true rfl) (m_size hW.lc) ?_
  exact s_iclt (tgt := 26) dX3_claimAt_12 (by decide) (fun c => absurd ⟨i32_le c1, c⟩ h) (fun _ => ht _ _ _ (by decide) (by decide))
theorem m_offerAt_ok {tm : Nat × Nat} {S : Sto} {w : CAd} {c : CC} {k : Int32} (hW : CW tm S w c) (h : inr k w.no) : Ev tm M_X3_offerAt [.ref w.th, .int k] S (Rt (some (.ref (w.oa (ix k)))) S) := by
  refine ev_in ok_X3_offerAt (Nat.le_of_ble_eq_true rfl) ?_
  refine s_iloadn dX3_offerAt_0 rfl rfl ?_
  refine s_iflt (tgt := 15) dX3_offerAt_1 (by decide) (fun c => absurd c (i32_nlt h.1)) (fun _ => ?_)
  refine s_iloadn dX3_offerAt_4 rfl rfl ?_
  refine s_aloadn dX3_offerAt_5 rfl rfl ?_
  refine s_getR (n := 5) dX3_offerAt_6 rfl hW.th (fun _ _ _ => rfl) hW.rol ?_
  refine s_cv0R (n := 3) dX3_offerAt_9 rfl (kv hW.olK (by decide) rfl) rfl (by decide) (by decide) (by decide) (by decide) (Nat.le_of_ble_eq_true rfl) (m_size hW.lo) ?_
  refine s_iclt (tgt := 26) dX3_offerAt_12 (by decide) (fun _ => ?_) (fun c => absurd h.2 c)
  refine s_aloadn dX3_offerAt_26 rfl rfl ?_
  refine s_getR (n := 5) dX3_offerAt_27 rfl hW.th (fun _ _ _ => rfl) hW.rol ?_
  refine s_iloadn dX3_offerAt_30 rfl rfl ?_
  have hg := m_get hW.lo (inr_lt h (Nat.le_trans hW.n12 (by decide)))
  rw [inr_ix h] at hg
  refine s_cv1R (n := 11) dX3_offerAt_31 rfl (kv hW.olK (by decide) rfl) rfl (by decide) (by decide) (by decide) (by decide) (Nat.le_of_ble_eq_true rfl) hg ?_
  refine s_cast (n := 3) dX3_offerAt_34 rfl (lst_kd hW.lo (inr_lt h (Nat.le_trans hW.n12 (by decide)))) ?_
  exact s_reta dX3_offerAt_37 rfl (Or.inl ⟨_, rfl⟩) ⟨rfl, rfl⟩
theorem m_offerAt_no {tm : Nat × Nat} {S : Sto} {w : CAd} {c : CC} {k : Int32} (hW : CW tm S w c) (h : ¬ inr k w.no) : Ev tm M_X3_offerAt [.ref w.th, .int k] S (Th 3 S) := by
  refine ev_in ok_X3_offerAt (Nat.le_of_ble_eq_true rfl) ?_
  refine s_iloadn dX3_offerAt_0 rfl rfl ?_
  have ht : ∀ (lo : Lv) (bc bs : Nat), 1 ≤ bc → 6 ≤ bs → Wp (Ev tm) tm M_X3_offerAt (Th 3 S) 15 lo [] bc bs S := fun lo bc bs h1 h2 => s_thr (x := 3) ⟨rfl, rfl, by decide, by decide, 311, 315, 375, _, by decide, List.mem_of_getElem? (i := 8) rfl, dX3_offerAt_15, dX3_offerAt_18, Or.inr ⟨dX3_offerAt_19, dX3_offerAt_22, dX3_offerAt_25⟩⟩ (by decide) h1 h2 ⟨rfl, rfl⟩
  refine s_iflt (tgt := 15) dX3_offerAt_1 (by decide) (fun _ => ht _ _ _ (by decide) (by decide)) (fun c1 => ?_)
  refine s_iloadn dX3_offerAt_4 rfl rfl ?_
  refine s_aloadn dX3_offerAt_5 rfl rfl ?_
  refine s_getR (n := 5) dX3_offerAt_6 rfl hW.th (fun _ _ _ => rfl) hW.rol ?_
  refine s_cv0R (n := 3) dX3_offerAt_9 rfl (kv hW.olK (by decide) rfl) rfl (by decide) (by decide) (by decide) (by decide) (Nat.le_of_ble_eq_true rfl) (m_size hW.lo) ?_
  exact s_iclt (tgt := 26) dX3_offerAt_12 (by decide) (fun c => absurd ⟨i32_le c1, c⟩ h) (fun _ => ht _ _ _ (by decide) (by decide))
theorem m_thingAt_ok {tm : Nat × Nat} {S : Sto} {w : CAd} {c : CC} {k : Int32} (hW : CW tm S w c) (h : inr k w.nt) : Ev tm M_X3_thingAt [.ref w.th, .int k] S (Rt (some (.ref (w.ta (ix k)))) S) := by
  refine ev_in ok_X3_thingAt (Nat.le_of_ble_eq_true rfl) ?_
  refine s_iloadn dX3_thingAt_0 rfl rfl ?_
  refine s_iflt (tgt := 15) dX3_thingAt_1 (by decide) (fun c => absurd c (i32_nlt h.1)) (fun _ => ?_)
  refine s_iloadn dX3_thingAt_4 rfl rfl ?_
  refine s_aloadn dX3_thingAt_5 rfl rfl ?_
  refine s_getR (n := 6) dX3_thingAt_6 rfl hW.th (fun _ _ _ => rfl) hW.rtl ?_
  refine s_cv0R (n := 3) dX3_thingAt_9 rfl (kv hW.tlK (by decide) rfl) rfl (by decide) (by decide) (by decide) (by decide) (Nat.le_of_ble_eq_true rfl) (m_size hW.lt) ?_
  refine s_iclt (tgt := 26) dX3_thingAt_12 (by decide) (fun _ => ?_) (fun c => absurd h.2 c)
  refine s_aloadn dX3_thingAt_26 rfl rfl ?_
  refine s_getR (n := 6) dX3_thingAt_27 rfl hW.th (fun _ _ _ => rfl) hW.rtl ?_
  refine s_iloadn dX3_thingAt_30 rfl rfl ?_
  have hg := m_get hW.lt (inr_lt h (Nat.le_trans hW.n10 (by decide)))
  rw [inr_ix h] at hg
  refine s_cv1R (n := 11) dX3_thingAt_31 rfl (kv hW.tlK (by decide) rfl) rfl (by decide) (by decide) (by decide) (by decide) (Nat.le_of_ble_eq_true rfl) hg ?_
  refine s_cast (n := 4) dX3_thingAt_34 rfl (lst_kd hW.lt (inr_lt h (Nat.le_trans hW.n10 (by decide)))) ?_
  exact s_reta dX3_thingAt_37 rfl (Or.inl ⟨_, rfl⟩) ⟨rfl, rfl⟩
theorem m_thingAt_no {tm : Nat × Nat} {S : Sto} {w : CAd} {c : CC} {k : Int32} (hW : CW tm S w c) (h : ¬ inr k w.nt) : Ev tm M_X3_thingAt [.ref w.th, .int k] S (Th 3 S) := by
  refine ev_in ok_X3_thingAt (Nat.le_of_ble_eq_true rfl) ?_
  refine s_iloadn dX3_thingAt_0 rfl rfl ?_
  have ht : ∀ (lo : Lv) (bc bs : Nat), 1 ≤ bc → 6 ≤ bs → Wp (Ev tm) tm M_X3_thingAt (Th 3 S) 15 lo [] bc bs S := fun lo bc bs h1 h2 => s_thr (x := 3) ⟨rfl, rfl, by decide, by decide, 311, 315, 377, _, by decide, List.mem_of_getElem? (i := 13) rfl, dX3_thingAt_15, dX3_thingAt_18, Or.inr ⟨dX3_thingAt_19, dX3_thingAt_22, dX3_thingAt_25⟩⟩ (by decide) h1 h2 ⟨rfl, rfl⟩
  refine s_iflt (tgt := 15) dX3_thingAt_1 (by decide) (fun _ => ht _ _ _ (by decide) (by decide)) (fun c1 => ?_)
  refine s_iloadn dX3_thingAt_4 rfl rfl ?_
  refine s_aloadn dX3_thingAt_5 rfl rfl ?_
  refine s_getR (n := 6) dX3_thingAt_6 rfl hW.th (fun _ _ _ => rfl) hW.rtl ?_
  refine s_cv0R (n := 3) dX3_thingAt_9 rfl (kv hW.tlK (by decide) rfl) rfl (by decide) (by decide) (by decide) (by decide) (Nat.le_of_ble_eq_true rfl) (m_size hW.lt) ?_
  exact s_iclt (tgt := 26) dX3_thingAt_12 (by decide) (fun c => absurd ⟨i32_le c1, c⟩ h) (fun _ => ht _ _ _ (by decide) (by decide))
