/-! THE PROGRAM, 27: the model's settle -/
theorem swaps_ai {n k j f i : Nat} {c : MC} (h1 : i ≠ k) (h2 : i ≠ n) (hf : f ≠ 28) : (f_X4_swaps n c k j).2.ai f i = c.ai f i := by
  unfold f_X4_swaps f_X4_adds
  simp only [MC.pai, MC.paj, MC.pti, MC.ai, up2_kne h1, up2_kne h2, up2_ne hf]
theorem swaps_k {n k j f : Nat} {c : MC} (h2 : k ≠ n) (hf : f ≠ 28) (hf2 : f ≠ 16) : (f_X4_swaps n c k j).2.ai f k = c.ai f k := by
  unfold f_X4_swaps f_X4_adds
  simp only [MC.pai, MC.paj, MC.pti, MC.ai, up2_kne h2, up2_ne hf, up2_ne hf2]
theorem swaps_ti {n k j t : Nat} {c : MC} (h : t ≠ 7) : (f_X4_swaps n c k j).2.ti t = c.ti t := by
  unfold f_X4_swaps f_X4_adds
  simp only [MC.pai, MC.paj, MC.pti, MC.ti, if_neg h]
theorem swaps_ti7 {n k j : Nat} {c : MC} : (f_X4_swaps n c k j).2.ti 7 = c.ti 7 + 1 := rfl
theorem swaps_oa {n k j i : Nat} {c : MC} : (f_X4_swaps n c k j).2.ai 26 i = c.ai 26 i := rfl
def q_X4_settle (n : Nat) (c : MC) (s : Int32) (j : Nat) : Nat → Nat × MC
  | 0 => (n, c)
  | k + 1 => if f_X4_goes ((q_X4_settle n c s j k).2.pai 27 (40 * j + k) 0) k s = 0 then ((q_X4_settle n c s j k).1, (q_X4_settle n c s j k).2.pai 27 (40 * j + k) 0) else ((q_X4_settle n c s j k).1 + 1, (f_X4_swaps (q_X4_settle n c s j k).1 ((q_X4_settle n c s j k).2.pai 27 (40 * j + k) 0) k j).2)
theorem q_X4_settle_s {n : Nat} {c : MC} {s : Int32} {j k : Nat} : q_X4_settle n c s j (k + 1) = (if f_X4_goes ((q_X4_settle n c s j k).2.pai 27 (40 * j + k) 0) k s = 0 then ((q_X4_settle n c s j k).1, (q_X4_settle n c s j k).2.pai 27 (40 * j + k) 0) else ((q_X4_settle n c s j k).1 + 1, (f_X4_swaps (q_X4_settle n c s j k).1 ((q_X4_settle n c s j k).2.pai 27 (40 * j + k) 0) k j).2) : Nat × MC) := rfl
def mcnt (c : MC) (s : Int32) : Nat → Nat
  | 0 => 0
  | k + 1 => if f_X4_goes c k s = 0 then mcnt c s k else mcnt c s k + 1
theorem mcnt_s {c : MC} {s : Int32} {k : Nat} : mcnt c s (k + 1) = (if f_X4_goes c k s = 0 then mcnt c s k else mcnt c s k + 1 : Nat) := rfl
theorem mcnt_le {c : MC} {s : Int32} {k : Nat} : mcnt c s k ≤ k := by
  induction k with
  | zero => exact Nat.le_refl _
  | succ k ih =>
    rw [mcnt_s]
    split <;> omega
theorem mcnt_mono {c : MC} {s : Int32} {k d : Nat} : mcnt c s k ≤ mcnt c s (k + d) := by
  induction d with
  | zero => exact Nat.le_refl _
  | succ d ih =>
    rw [← Nat.add_assoc, mcnt_s]
    split <;> omega
theorem goes_cg {c c1 : MC} {k : Nat} {s : Int32} (h1 : c1.ai 8 k = c.ai 8 k) (h2 : c1.ai 14 k = c.ai 14 k) (h3 : c1.ai 16 k = c.ai 16 k) : f_X4_goes c1 k s = f_X4_goes c k s := by
  unfold f_X4_goes
  rw [h1, h2, h3]
theorem mcnt_cg {c c1 : MC} {s : Int32} {k : Nat} (h : ∀ k, f_X4_goes c1 k s = f_X4_goes c k s) : mcnt c1 s k = mcnt c s k := by
  induction k with
  | zero => rfl
  | succ k ih => rw [mcnt_s, mcnt_s, h, ih]
theorem q_inv {n : Nat} {c : MC} {s : Int32} {j k : Nat} (hc : c.ti 7 = nI n) (hk : k ≤ n) : (q_X4_settle n c s j k).1 = n + mcnt c s k ∧ (q_X4_settle n c s j k).2.ti 7 = nI (n + mcnt c s k) ∧ (∀ t, t ≠ 7 → (q_X4_settle n c s j k).2.ti t = c.ti t) ∧ (∀ i, (q_X4_settle n c s j k).2.ai 26 i = c.ai 26 i) ∧ (∀ i f, i < n → f ≠ 28 → f ≠ 27 → (f = 16 → k ≤ i) → (q_X4_settle n c s j k).2.ai f i = c.ai f i) := by
  induction k with
  | zero => exact ⟨rfl, hc, fun _ _ => rfl, fun _ => rfl, fun _ _ _ _ _ _ => rfl⟩
  | succ k ih =>
    obtain ⟨e1, e2, e3, e4, e5⟩ := ih (by omega)
    have g : f_X4_goes ((q_X4_settle n c s j k).2.pai 27 (40 * j + k) 0) k s = f_X4_goes c k s := goes_cg (e5 k 8 (by omega) (by decide) (by decide) (fun z => absurd z (by decide))) (e5 k 14 (by omega) (by decide) (by decide) (fun z => absurd z (by decide))) (e5 k 16 (by omega) (by decide) (by decide) (fun _ => Nat.le_refl _))
    rw [q_X4_settle_s, mcnt_s]
    by_cases hs : f_X4_goes c k s = 0
    · rw [if_pos (g.trans hs), if_pos hs]
      exact ⟨e1, e2, e3, e4, fun i f hi h28 h27 h16 => (congrFun (up2_ne h27) i).trans (e5 i f hi h28 h27 (fun z => by have := h16 z; omega))⟩
    · rw [if_neg (fun z => hs (g.symm.trans z)), if_neg hs]
      refine ⟨?_, ?_, fun t ht => (swaps_ti ht).trans (e3 t ht), fun i => e4 i, fun i f hi h28 h27 h16 => ?_⟩
      · show (q_X4_settle n c s j k).1 + 1 = _
        rw [e1]
        omega
      · show (f_X4_swaps _ _ k j).2.ti 7 = _
        rw [swaps_ti7]
        show (q_X4_settle n c s j k).2.ti 7 + 1 = _
        rw [e2, nI_1]
        rfl
      · have hin : i ≠ (q_X4_settle n c s j k).1 := by rw [e1]; omega
        by_cases e : i = k
        · subst e
          have hf16 : f ≠ 16 := fun z => by have := h16 z; omega
          exact (swaps_k hin h28 hf16).trans ((congrFun (up2_ne h27) i).trans (e5 i f hi h28 h27 (fun z => absurd z hf16)))
        · exact (swaps_ai e hin h28).trans ((congrFun (up2_ne h27) i).trans (e5 i f hi h28 h27 (fun z => by have := h16 z; omega)))
theorem q_room {n : Nat} {c : MC} {s : Int32} {k : Nat} (hn : n ≤ 40) (hr : nI n + nI (mcnt c s n) ≤ 40) (hk : k < n) (hs : ¬ f_X4_goes c k s = 0) : n + mcnt c s k < 40 := by
  have hle := @mcnt_le c s n
  have h1 : mcnt c s (k + 1) = mcnt c s k + 1 := if_neg hs
  have h2 := @mcnt_mono c s (k + 1) (n - (k + 1))
  rw [show k + 1 + (n - (k + 1)) = n by omega] at h2
  rw [nI_add, Int32.le_iff_toInt_le, nI_toInt (by omega)] at hr
  have hr : ((n + mcnt c s n : Nat) : Int) ≤ 40 := hr
  omega
def g_X4_settle0 (n : Nat) (c : MC) (o : Int32) : Nat → Int32
  | 0 => 0
  | k + 1 => if (f_X4_isOffer c o) = 0 then (g_X4_settle0 n c o k) + 0 else (if (f_X4_goes c k 0) = 0 then (g_X4_settle0 n c o k) + 0 else (g_X4_settle0 n c o k) + 1)
theorem g_X4_settle0_s {n : Nat} {c : MC} {o : Int32} {k : Nat} : g_X4_settle0 n c o (k + 1) = (if (f_X4_isOffer c o) = 0 then (g_X4_settle0 n c o k) + 0 else (if (f_X4_goes c k 0) = 0 then (g_X4_settle0 n c o k) + 0 else (g_X4_settle0 n c o k) + 1) : Int32) := rfl
def g_X4_settle (n : Nat) (c : MC) (o : Int32) : Nat → Int32
  | 0 => 0
  | k + 1 => if (f_X4_isOffer c o) = 0 then (g_X4_settle n c o k) + 0 else (if (f_X4_goes c k (f_X4_passed n c (ix o))) = 0 then (g_X4_settle n c o k) + 0 else (g_X4_settle n c o k) + 1)
theorem g_X4_settle_s {n : Nat} {c : MC} {o : Int32} {k : Nat} : g_X4_settle n c o (k + 1) = (if (f_X4_isOffer c o) = 0 then (g_X4_settle n c o k) + 0 else (if (f_X4_goes c k (f_X4_passed n c (ix o))) = 0 then (g_X4_settle n c o k) + 0 else (g_X4_settle n c o k) + 1) : Int32) := rfl
theorem gm_cnt {n : Nat} {c : MC} {o : Int32} (h : ¬ f_X4_isOffer c o = 0) (k : Nat) : g_X4_settle n c o k = nI (mcnt c (f_X4_passed n c (ix o)) k) := by
  induction k with
  | zero => rfl
  | succ k ih =>
    rw [g_X4_settle_s, ih, mcnt_s, if_neg h]
    by_cases hs : f_X4_goes c k (f_X4_passed n c (ix o)) = 0
    · rw [if_pos hs, if_pos hs]
      exact Int32.add_zero _
    · rw [if_neg hs, if_neg hs]
      exact nI_1 _
def f_X4_settle (n : Nat) (no : Nat) (c : MC) (o : Int32) : Int32 × MC := if (f_X4_isOffer c o) = 0 then (if (f_X4_isOffer c o) = 0 then (0, (c.pti 0 1)) else (if ((c.ti 7) + (g_X4_settle0 n c o n)) ≤ 40 then (0, c) else (0, (c.pti 0 2)))) else (if (f_X4_isOffer c o) = 0 then (0, (c.pti 0 1)) else (if ((c.ti 7) + (g_X4_settle n c o n)) ≤ 40 then ((g_X4_settle n c o n), (q_X4_settle n (c.pti 0 0) (f_X4_passed n c (ix o)) (ix o) n).2) else (0, (c.pti 0 2))))
set_option maxHeartbeats 4000000 in
theorem m_X4_settle {tm : Nat × Nat} {S : Sto} {w : MAd} {c : MC} {n : Nat} {no : Nat} {o : Int32} (hW : MW S w c) (hcl : c.ti 7 = nI n) (hn : n ≤ 40) (hco : c.ti 23 = nI no) (hno : no ≤ 12) (hKs : ∀ i, i < n → inr (c.ai 8 i) 5) (hBs : ∀ i, i < n → c.ai 15 i = 0 ∨ c.ai 15 i = 1) (hy : 0 ≤ (c.ti 1).toInt ∧ (c.ti 1).toInt ≤ 100) (hdd : ∀ i, i < n → 0 ≤ (c.ai 12 i).toInt ∧ (c.ai 12 i).toInt ≤ 200) (hyo : ∀ j, j < no → 0 ≤ (c.ti 1 + c.ai 26 j).toInt ∧ (c.ti 1 + c.ai 26 j).toInt ≤ 200) (hz : ¬ ((10000 + c.ti 6 : Int32).toInt64) = 0)  : Ev tm M_X4_settle [.ref w.mm, .int o] S (NI w S (f_X4_settle n no c o)) := by
  have hF : FrM S S := FrM.rf
  refine ev_in ok_X4_settle (Nat.le_of_ble_eq_true rfl) ?_
  refine s_aloadn dX4_settle_0 rfl rfl ?_
  refine s_iloadn dX4_settle_1 rfl rfl ?_
  refine s_cv1R (n := 61) dX4_settle_2 rfl (kv hW.mm (by decide) rfl) rfl (by decide) (by decide) (by decide) (by decide) (Nat.le_of_ble_eq_true rfl) (m_X4_isOffer hW) ?_
  refine s_istoren dX4_settle_5 rfl (by decide) ?_
  refine s_iloadn dX4_settle_6 rfl rfl ?_
  refine s_ifeq (tgt := 18) dX4_settle_7 (by decide) (fun c_7 => ?_) (fun c_7 => ?_)
  · skip
    refine s_iconst (v := 0) dX4_settle_18 (by decide) ?_
    refine s_istoren dX4_settle_19 rfl (by decide) ?_
    refine s_iconst (v := 0) dX4_settle_20 (by decide) ?_
    refine s_istore dX4_settle_21 (by decide) ?_
    refine s_iconst (v := 0) dX4_settle_23 (by decide) ?_
    refine s_istore dX4_settle_24 (by decide) ?_
    have LP_26 : ∀ (d k : Nat), k + d = n → Wp (Ev tm) tm M_X4_settle (NI w S (f_X4_settle n no c o)) 26 [(0, .ref w.mm), (1, .int o), (2, .int (f_X4_isOffer c o)), (3, .int 0), (4, .int (g_X4_settle0 n c o k)), (5, .int (nI k))] [] 0 0 S := by
      intro d
      induction d with
      | zero =>
        intro k hkd
        have hkn : n = k := by omega
        subst hkn
        refine s_iload dX4_settle_26 rfl ?_
        refine s_aloadn dX4_settle_28 rfl rfl ?_
        refine s_get (v := .int (c.ti 7)) (n := 68) dX4_settle_29 rfl hW.mm (congrArg Value.int (congrFun hW.ti 7)) ?_
        refine s_icge (tgt := 65) dX4_settle_32 (by decide) (fun _ => ?_) (fun c => absurd (by rw [hcl]; exact Int32.le_refl _) c)
        refine s_aloadn dX4_settle_65 rfl rfl ?_
        refine s_iloadn dX4_settle_66 rfl rfl ?_
        refine s_ifne (tgt := 74) dX4_settle_67 (by decide) (fun c_67 => ?_) (fun c_67 => ?_)
        · skip
          refine s_aloadn dX4_settle_74 rfl rfl ?_
          refine s_get (v := .int (c.ti 7)) (n := 68) dX4_settle_75 rfl hW.mm (congrArg Value.int (congrFun hW.ti 7)) ?_
          refine s_iload dX4_settle_78 rfl ?_
          refine s_iadd dX4_settle_80 ?_
          refine s_bipush (v := 40) dX4_settle_81 (by decide) ?_
          refine s_icle (tgt := 90) dX4_settle_83 (by decide) (fun c_83 => ?_) (fun c_83 => ?_)
          · skip
            refine s_iconst (v := 0) dX4_settle_90 (by decide) ?_
            refine s_cv1G (n := 49) dX4_settle_91 rfl (kv hW.mm (by decide) rfl) rfl (by decide) (by decide) (by decide) (by decide) (Nat.le_of_ble_eq_true rfl) (m_holds0 hW) (fun r1 S1 hr1 => ?_) (fun x S2 hr => by obtain ⟨e, -⟩ := hr; cases e)
            obtain ⟨e1, hW1, hG1⟩ := hr1
            cases e1
            have hF1 := hF.tr hG1
            refine s_ifne (tgt := 99) dX4_settle_94 (by decide) (fun _ => ?_) (fun c => absurd c (by decide))
            refine s_aloadn dX4_settle_99 rfl rfl ?_
            refine s_get (v := .int (c.ti 7)) (n := 68) dX4_settle_100 rfl hW1.mm (congrArg Value.int (congrFun hW1.ti 7)) ?_
            refine s_istore dX4_settle_103 (by decide) ?_
            refine s_iconst (v := 0) dX4_settle_105 (by decide) ?_
            refine s_istore dX4_settle_106 (by decide) ?_
            exact absurd c_7 c_67
          · skip
            refine s_iconst (v := 2) dX4_settle_86 (by decide) ?_
            refine s_goto (tgt := 91) dX4_settle_87 (by decide) ?_
            refine s_cv1G (n := 49) dX4_settle_91 rfl (kv hW.mm (by decide) rfl) rfl (by decide) (by decide) (by decide) (by decide) (Nat.le_of_ble_eq_true rfl) (m_holdsP (p := 2) hW (by decide)) (fun r2 S2 hr2 => ?_) (fun x S2 hr => by obtain ⟨e, -⟩ := hr; cases e)
            obtain ⟨e2, hW2, hG2⟩ := hr2
            cases e2
            have hF2 := hF.tr hG2
            refine s_ifne (tgt := 99) dX4_settle_94 (by decide) (fun c => absurd c (by decide)) (fun _ => ?_)
            refine s_iconst (v := 0) dX4_settle_97 (by decide) ?_
            exact s_reti dX4_settle_98 rfl rfl (NI.of (F := f_X4_settle n no c o) (x := 0) (by unfold f_X4_settle; rw [if_pos c_7, if_neg c_67, if_neg c_83]) hW2 hF2)
        · skip
          refine s_iconst (v := 1) dX4_settle_70 (by decide) ?_
          refine s_goto (tgt := 91) dX4_settle_71 (by decide) ?_
          refine s_cv1G (n := 49) dX4_settle_91 rfl (kv hW.mm (by decide) rfl) rfl (by decide) (by decide) (by decide) (by decide) (Nat.le_of_ble_eq_true rfl) (m_holdsP (p := 1) hW (by decide)) (fun r3 S3 hr3 => ?_) (fun x S2 hr => by obtain ⟨e, -⟩ := hr; cases e)
          obtain ⟨e3, hW3, hG3⟩ := hr3
          cases e3
          have hF3 := hF.tr hG3
          refine s_ifne (tgt := 99) dX4_settle_94 (by decide) (fun c => absurd c (by decide)) (fun _ => ?_)
          refine s_iconst (v := 0) dX4_settle_97 (by decide) ?_
          exact s_reti dX4_settle_98 rfl rfl (NI.of (F := f_X4_settle n no c o) (x := 0) (by unfold f_X4_settle; rw [if_pos c_7, if_pos c_67]) hW3 hF3)
      | succ d ih =>
        intro k hkd
        have hlt : k < n := by omega
        refine s_iload dX4_settle_26 rfl ?_
        refine s_aloadn dX4_settle_28 rfl rfl ?_
        refine s_get (v := .int (c.ti 7)) (n := 68) dX4_settle_29 rfl hW.mm (congrArg Value.int (congrFun hW.ti 7)) ?_
        refine s_icge (tgt := 65) dX4_settle_32 (by decide) (fun c => absurd c (by rw [hcl]; exact nI_ge hlt (by omega))) (fun _ => ?_)
        refine s_iload dX4_settle_35 rfl ?_
        refine s_iloadn dX4_settle_37 rfl rfl ?_
        refine s_ifeq (tgt := 55) dX4_settle_38 (by decide) (fun c_38 => ?_) (fun c_38 => ?_)
        · skip
          refine s_iconst (v := 0) dX4_settle_55 (by decide) ?_
          refine s_iadd dX4_settle_56 ?_
          refine s_istore dX4_settle_57 (by decide) ?_
          refine s_iinc (v := (nI k) + 1) dX4_settle_59 rfl (by rfl) (by decide) ?_
          refine s_goto (tgt := 26) dX4_settle_62 (by decide) ?_
          exact s_sub (lo' := [(0, .ref w.mm), (1, .int o), (2, .int (f_X4_isOffer c o)), (3, .int 0), (4, .int (g_X4_settle0 n c o (k + 1))), (5, .int (nI (k + 1)))]) (List.forall_mem_cons.mpr ⟨rfl, List.forall_mem_cons.mpr ⟨rfl, List.forall_mem_cons.mpr ⟨rfl, List.forall_mem_cons.mpr ⟨rfl, List.forall_mem_cons.mpr ⟨congrArg (fun z => some (Value.int z)) (Eq.symm (by rw [g_X4_settle0_s, if_pos c_38])), List.forall_mem_cons.mpr ⟨congrArg (fun z => some (Value.int z)) (nI_1 k), fun _ h => absurd h List.not_mem_nil⟩⟩⟩⟩⟩⟩) (Nat.zero_le _) (Nat.zero_le _) (ih (k + 1) (by omega))
        · skip
          refine s_aloadn dX4_settle_41 rfl rfl ?_
          refine s_iload dX4_settle_42 rfl ?_
          refine s_iloadn dX4_settle_44 rfl rfl ?_
          refine s_cv2R (n := 69) dX4_settle_45 rfl (kv hW.mm (by decide) rfl) rfl (by decide) (by decide) (by decide) (by decide) (Nat.le_of_ble_eq_true rfl) (m_X4_goes hW (Nat.lt_of_lt_of_le hlt hn)) ?_
          refine s_ifeq (tgt := 55) dX4_settle_48 (by decide) (fun c_48 => ?_) (fun c_48 => ?_)
          · skip
            refine s_iconst (v := 0) dX4_settle_55 (by decide) ?_
            refine s_iadd dX4_settle_56 ?_
            refine s_istore dX4_settle_57 (by decide) ?_
            refine s_iinc (v := (nI k) + 1) dX4_settle_59 rfl (by rfl) (by decide) ?_
            refine s_goto (tgt := 26) dX4_settle_62 (by decide) ?_
            exact s_sub (lo' := [(0, .ref w.mm), (1, .int o), (2, .int (f_X4_isOffer c o)), (3, .int 0), (4, .int (g_X4_settle0 n c o (k + 1))), (5, .int (nI (k + 1)))]) (List.forall_mem_cons.mpr ⟨rfl, List.forall_mem_cons.mpr ⟨rfl, List.forall_mem_cons.mpr ⟨rfl, List.forall_mem_cons.mpr ⟨rfl, List.forall_mem_cons.mpr ⟨congrArg (fun z => some (Value.int z)) (Eq.symm (by rw [g_X4_settle0_s, if_neg c_38, if_pos c_48])), List.forall_mem_cons.mpr ⟨congrArg (fun z => some (Value.int z)) (nI_1 k), fun _ h => absurd h List.not_mem_nil⟩⟩⟩⟩⟩⟩) (Nat.zero_le _) (Nat.zero_le _) (ih (k + 1) (by omega))
          · skip
            refine s_iconst (v := 1) dX4_settle_51 (by decide) ?_
            refine s_goto (tgt := 56) dX4_settle_52 (by decide) ?_
            refine s_iadd dX4_settle_56 ?_
            refine s_istore dX4_settle_57 (by decide) ?_
            refine s_iinc (v := (nI k) + 1) dX4_settle_59 rfl (by rfl) (by decide) ?_
            refine s_goto (tgt := 26) dX4_settle_62 (by decide) ?_
            exact s_sub (lo' := [(0, .ref w.mm), (1, .int o), (2, .int (f_X4_isOffer c o)), (3, .int 0), (4, .int (g_X4_settle0 n c o (k + 1))), (5, .int (nI (k + 1)))]) (List.forall_mem_cons.mpr ⟨rfl, List.forall_mem_cons.mpr ⟨rfl, List.forall_mem_cons.mpr ⟨rfl, List.forall_mem_cons.mpr ⟨rfl, List.forall_mem_cons.mpr ⟨congrArg (fun z => some (Value.int z)) (Eq.symm (by rw [g_X4_settle0_s, if_neg c_38, if_neg c_48])), List.forall_mem_cons.mpr ⟨congrArg (fun z => some (Value.int z)) (nI_1 k), fun _ h => absurd h List.not_mem_nil⟩⟩⟩⟩⟩⟩) (Nat.zero_le _) (Nat.zero_le _) (ih (k + 1) (by omega))
    exact s_sub (lo' := [(0, .ref w.mm), (1, .int o), (2, .int (f_X4_isOffer c o)), (3, .int 0), (4, .int (g_X4_settle0 n c o 0)), (5, .int (nI 0))]) (List.forall_mem_cons.mpr ⟨rfl, List.forall_mem_cons.mpr ⟨rfl, List.forall_mem_cons.mpr ⟨rfl, List.forall_mem_cons.mpr ⟨rfl, List.forall_mem_cons.mpr ⟨rfl, List.forall_mem_cons.mpr ⟨rfl, fun _ h => absurd h List.not_mem_nil⟩⟩⟩⟩⟩⟩) (Nat.zero_le _) (Nat.zero_le _) (LP_26 n 0 (by omega))
  · skip
    refine s_aloadn dX4_settle_10 rfl rfl ?_
    refine s_iloadn dX4_settle_11 rfl rfl ?_
    refine s_cv1R (n := 68) dX4_settle_12 rfl (kv hW.mm (by decide) rfl) rfl (by decide) (by decide) (by decide) (by decide) (Nat.le_of_ble_eq_true rfl) (by have q : Ev tm M_X4_passed [.ref w.mm, .int (nI (ix o))] S _ := m_X4_passed hW hcl hn (Nat.lt_of_lt_of_le (inr_lt (isO hco hno c_7) (Nat.le_trans hno (by decide))) hno); rw [← ((inr_ix (isO hco hno c_7)).symm)] at q; exact q) ?_
    refine s_goto (tgt := 19) dX4_settle_15 (by decide) ?_
    refine s_istoren dX4_settle_19 rfl (by decide) ?_
    refine s_iconst (v := 0) dX4_settle_20 (by decide) ?_
    refine s_istore dX4_settle_21 (by decide) ?_
    refine s_iconst (v := 0) dX4_settle_23 (by decide) ?_
    refine s_istore dX4_settle_24 (by decide) ?_
    have LP_26 : ∀ (d k : Nat), k + d = n → Wp (Ev tm) tm M_X4_settle (NI w S (f_X4_settle n no c o)) 26 [(0, .ref w.mm), (1, .int o), (2, .int (f_X4_isOffer c o)), (3, .int (f_X4_passed n c (ix o))), (4, .int (g_X4_settle n c o k)), (5, .int (nI k))] [] 0 0 S := by
      intro d
      induction d with
      | zero =>
        intro k hkd
        have hkn : n = k := by omega
        subst hkn
        refine s_iload dX4_settle_26 rfl ?_
        refine s_aloadn dX4_settle_28 rfl rfl ?_
        refine s_get (v := .int (c.ti 7)) (n := 68) dX4_settle_29 rfl hW.mm (congrArg Value.int (congrFun hW.ti 7)) ?_
        refine s_icge (tgt := 65) dX4_settle_32 (by decide) (fun _ => ?_) (fun c => absurd (by rw [hcl]; exact Int32.le_refl _) c)
        refine s_aloadn dX4_settle_65 rfl rfl ?_
        refine s_iloadn dX4_settle_66 rfl rfl ?_
        refine s_ifne (tgt := 74) dX4_settle_67 (by decide) (fun c_67 => ?_) (fun c_67 => ?_)
        · skip
          refine s_aloadn dX4_settle_74 rfl rfl ?_
          refine s_get (v := .int (c.ti 7)) (n := 68) dX4_settle_75 rfl hW.mm (congrArg Value.int (congrFun hW.ti 7)) ?_
          refine s_iload dX4_settle_78 rfl ?_
          refine s_iadd dX4_settle_80 ?_
          refine s_bipush (v := 40) dX4_settle_81 (by decide) ?_
          refine s_icle (tgt := 90) dX4_settle_83 (by decide) (fun c_83 => ?_) (fun c_83 => ?_)
          · skip
            refine s_iconst (v := 0) dX4_settle_90 (by decide) ?_
            refine s_cv1G (n := 49) dX4_settle_91 rfl (kv hW.mm (by decide) rfl) rfl (by decide) (by decide) (by decide) (by decide) (Nat.le_of_ble_eq_true rfl) (m_holds0 hW) (fun r4 S4 hr4 => ?_) (fun x S2 hr => by obtain ⟨e, -⟩ := hr; cases e)
            obtain ⟨e4, hW4, hG4⟩ := hr4
            cases e4
            have hF4 := hF.tr hG4
            refine s_ifne (tgt := 99) dX4_settle_94 (by decide) (fun _ => ?_) (fun c => absurd c (by decide))
            refine s_aloadn dX4_settle_99 rfl rfl ?_
            refine s_get (v := .int (c.ti 7)) (n := 68) dX4_settle_100 rfl hW4.mm (congrArg Value.int (congrFun hW4.ti 7)) ?_
            refine s_istore dX4_settle_103 (by decide) ?_
            refine s_iconst (v := 0) dX4_settle_105 (by decide) ?_
            refine s_istore dX4_settle_106 (by decide) ?_
            have hio := (isO hco hno c_7)
            have hjo : ix o < 12 := Nat.lt_of_lt_of_le (inr_lt hio (Nat.le_trans hno (by decide))) hno
            have hjn : ix o < no := inr_lt hio (Nat.le_trans hno (by decide))
            have heo : nI (ix o) = o := inr_ix hio
            have hg : ∀ k, g_X4_settle n c o k = nI (mcnt c (f_X4_passed n c (ix o)) k) := fun k => gm_cnt (c_7) k
            have hrm := c_83
            rw [hcl, hg, mcnt_cg (c1 := c) (c := (c.pti 0 0)) (fun k => goes_cg rfl rfl rfl)] at hrm
            have hcc : ((c.pti 0 0)).ti 7 = nI n := hcl
            have LQ : ∀ (d k : Nat) (S1 : Sto), k + d = n → MW S1 w (q_X4_settle n (c.pti 0 0) (f_X4_passed n c (ix o)) (ix o) k).2 → FrM S S1 → Wp (Ev tm) tm M_X4_settle (NI w S (f_X4_settle n no c o)) 108 [(0, .ref w.mm), (1, .int o), (3, .int (f_X4_passed n c (ix o))), (4, .int (g_X4_settle n c o n)), (5, .int (nI n)), (6, .int (nI k))] [] 0 0 S1 := by
              intro d
              induction d with
              | zero =>
                intro k S1 hkd hW1 hF1
                have hkn : n = k := by omega
                rw [← hkn] at hW1 ⊢
                refine s_iload dX4_settle_108 rfl ?_
                refine s_iload dX4_settle_110 rfl ?_
                refine s_icge (tgt := 152) dX4_settle_112 (by decide) (fun _ => ?_) (fun c => absurd (Int32.le_refl _) c)
                refine s_iload dX4_settle_152 rfl ?_
                exact s_reti dX4_settle_154 rfl rfl (NI.of (F := f_X4_settle n no c o) (x := (g_X4_settle n c o n)) (by unfold f_X4_settle; rw [if_neg c_7, if_neg c_67, if_pos c_83]) hW1 hF1)
              | succ d ih =>
                intro k S1 hkd hW1 hF1
                have hlt : k < n := by omega
                obtain ⟨v1, v2, v3, v4, v5⟩ := q_inv (n := n) (c := (c.pti 0 0)) (s := (f_X4_passed n c (ix o))) (j := ix o) hcc (Nat.le_of_lt hlt)
                refine s_iload dX4_settle_108 rfl ?_
                refine s_iload dX4_settle_110 rfl ?_
                refine s_icge (tgt := 152) dX4_settle_112 (by decide) (fun c => absurd c (nI_ge hlt (by omega))) (fun _ => ?_)
                refine s_aloadn dX4_settle_115 rfl rfl ?_
                refine s_getR (n := 88) dX4_settle_116 rfl hW1.mm (fun _ _ _ => rfl) (hW1.rr 27 (by decide)).1 ?_
                refine s_bipush (v := 40) dX4_settle_119 (by decide) ?_
                refine s_iloadn dX4_settle_121 rfl rfl ?_
                refine s_imul dX4_settle_122 ?_
                refine s_iload dX4_settle_123 rfl ?_
                refine s_iadd dX4_settle_125 ?_
                refine s_iconst (v := 0) dX4_settle_126 (by decide) ?_
                refine s_iast' (j := 40 * ix o + k) dX4_settle_127 ((hW1.rr 27 (by decide)).2.1) (by rw [← vix, heo]) (by rw [(hW1.rr 27 (by decide)).2.2]; exact (show 40 * ix o + k < 480 by omega)) (by rw [(hW1.rr 27 (by decide)).2.2]; decide) ?_
                have hW2 := hW1.pai (f := 27) (by decide) (k := 40 * ix o + k) (v := 0)
                have hF2 := hF1.uI (k := 40 * ix o + k) (v := 0) (kd := 6) ((hW1.rr 27 (by decide)).2.1) (by decide)
                refine s_aloadn dX4_settle_128 rfl rfl ?_
                refine s_iload dX4_settle_129 rfl ?_
                refine s_iloadn dX4_settle_131 rfl rfl ?_
                refine s_cv2R (n := 69) dX4_settle_132 rfl (kv hW2.mm (by decide) rfl) rfl (by decide) (by decide) (by decide) (by decide) (Nat.le_of_ble_eq_true rfl) (m_X4_goes hW2 (show k < 40 by omega)) ?_
                refine s_ifeq (tgt := 146) dX4_settle_135 (by decide) (fun cs => ?_) (fun cs => ?_)
                · have eh : (q_X4_settle n (c.pti 0 0) (f_X4_passed n c (ix o)) (ix o) (k + 1)) = ((q_X4_settle n (c.pti 0 0) (f_X4_passed n c (ix o)) (ix o) k).1, ((q_X4_settle n (c.pti 0 0) (f_X4_passed n c (ix o)) (ix o) k).2.pai 27 (40 * ix o + k) 0)) := by rw [q_X4_settle_s, if_pos cs]
                  refine s_iinc (v := nI k + 1) dX4_settle_146 rfl (by rfl) (by decide) ?_
                  refine s_goto (tgt := 108) dX4_settle_149 (by decide) ?_
                  exact s_sub (lo' := [(0, .ref w.mm), (1, .int o), (3, .int (f_X4_passed n c (ix o))), (4, .int (g_X4_settle n c o n)), (5, .int (nI n)), (6, .int (nI (k + 1)))]) (List.forall_mem_cons.mpr ⟨rfl, List.forall_mem_cons.mpr ⟨rfl, List.forall_mem_cons.mpr ⟨rfl, List.forall_mem_cons.mpr ⟨rfl, List.forall_mem_cons.mpr ⟨rfl, List.forall_mem_cons.mpr ⟨congrArg (fun z => some (Value.int z)) (nI_1 k), fun _ h => absurd h List.not_mem_nil⟩⟩⟩⟩⟩⟩) (Nat.zero_le _) (Nat.zero_le _) (ih (k + 1) _ (by omega) (by rw [eh]; exact hW2) hF2)
                · have eh : (q_X4_settle n (c.pti 0 0) (f_X4_passed n c (ix o)) (ix o) (k + 1)) = ((q_X4_settle n (c.pti 0 0) (f_X4_passed n c (ix o)) (ix o) k).1 + 1, (f_X4_swaps (q_X4_settle n (c.pti 0 0) (f_X4_passed n c (ix o)) (ix o) k).1 ((q_X4_settle n (c.pti 0 0) (f_X4_passed n c (ix o)) (ix o) k).2.pai 27 (40 * ix o + k) 0) k (ix o)).2) := by rw [q_X4_settle_s, if_neg cs]
                  have gc : f_X4_goes ((q_X4_settle n (c.pti 0 0) (f_X4_passed n c (ix o)) (ix o) k).2.pai 27 (40 * ix o + k) 0) k (f_X4_passed n c (ix o)) = f_X4_goes (c.pti 0 0) k (f_X4_passed n c (ix o)) := goes_cg (v5 k 8 hlt (by decide) (by decide) (fun z => absurd z (by decide))) (v5 k 14 hlt (by decide) (by decide) (fun z => absurd z (by decide))) (v5 k 16 hlt (by decide) (by decide) (fun _ => Nat.le_refl _))
                  have hn1 : (q_X4_settle n (c.pti 0 0) (f_X4_passed n c (ix o)) (ix o) k).1 < 40 := by rw [v1]; exact q_room hn hrm hlt (fun z => cs (gc.trans z))
                  refine s_aloadn dX4_settle_138 rfl rfl ?_
                  refine s_iload dX4_settle_139 rfl ?_
                  refine s_iloadn dX4_settle_141 rfl rfl ?_
                  have v1' : ((q_X4_settle n (c.pti 0 0) (f_X4_passed n c (ix o)) (ix o) k).2.pai 27 (40 * ix o + k) 0).ti 1 = c.ti 1 := v3 1 (by decide)
                  have v6' : ((q_X4_settle n (c.pti 0 0) (f_X4_passed n c (ix o)) (ix o) k).2.pai 27 (40 * ix o + k) 0).ti 6 = c.ti 6 := v3 6 (by decide)
                  have va : ∀ f, f ≠ 28 → f ≠ 27 → f ≠ 16 → ((q_X4_settle n (c.pti 0 0) (f_X4_passed n c (ix o)) (ix o) k).2.pai 27 (40 * ix o + k) 0).ai f k = c.ai f k := fun f h1 h2 h3 => (congrFun (up2_ne h2) k).trans (v5 k f hlt h1 h2 (fun z => absurd z h3))
                  have v26 : ((q_X4_settle n (c.pti 0 0) (f_X4_passed n c (ix o)) (ix o) k).2.pai 27 (40 * ix o + k) 0).ai 26 (ix o) = c.ai 26 (ix o) := v4 _
                  have hsw : Ev tm M_X4_swaps [.ref w.mm, .int (nI k), .int (nI (ix o))] _ _ := m_X4_swaps (n := (q_X4_settle n (c.pti 0 0) (f_X4_passed n c (ix o)) (ix o) k).1) (j := ix o) hW2 (by rw [v1]; exact v2) hn1 (by rw [v1]; omega) hjo (by rw [va 8 (by decide) (by decide) (by decide)]; exact hKs k hlt) (by rw [v1']; exact hy) (by rw [va 12 (by decide) (by decide) (by decide)]; exact hdd k hlt) (by rw [v1', v26]; exact hyo _ hjn) (by rw [v6']; exact hz) (by rw [va 15 (by decide) (by decide) (by decide)]; exact hBs k hlt)
                  rw [heo] at hsw
                  refine s_cv2G (n := 62) dX4_settle_142 rfl (kv hW2.mm (by decide) rfl) rfl (by decide) (by decide) (by decide) (by decide) (Nat.le_of_ble_eq_true rfl) hsw (fun r S2 hr => ?_) (fun x S2 hr => by obtain ⟨e, -⟩ := hr; cases e)
                  obtain ⟨e, hW3, hG3⟩ := hr
                  cases e
                  refine s_pop dX4_settle_145 rfl ?_
                  refine s_iinc (v := nI k + 1) dX4_settle_146 rfl (by rfl) (by decide) ?_
                  refine s_goto (tgt := 108) dX4_settle_149 (by decide) ?_
                  exact s_sub (lo' := [(0, .ref w.mm), (1, .int o), (3, .int (f_X4_passed n c (ix o))), (4, .int (g_X4_settle n c o n)), (5, .int (nI n)), (6, .int (nI (k + 1)))]) (List.forall_mem_cons.mpr ⟨rfl, List.forall_mem_cons.mpr ⟨rfl, List.forall_mem_cons.mpr ⟨rfl, List.forall_mem_cons.mpr ⟨rfl, List.forall_mem_cons.mpr ⟨rfl, List.forall_mem_cons.mpr ⟨congrArg (fun z => some (Value.int z)) (nI_1 k), fun _ h => absurd h List.not_mem_nil⟩⟩⟩⟩⟩⟩) (Nat.zero_le _) (Nat.zero_le _) (ih (k + 1) S2 (by omega) (by rw [eh]; exact hW3) (hF2.tr hG3))
            refine s_sub (lo' := [(0, .ref w.mm), (1, .int o), (3, .int (f_X4_passed n c (ix o))), (4, .int (g_X4_settle n c o n)), (5, .int (nI n)), (6, .int (nI 0))]) (List.forall_mem_cons.mpr ⟨rfl, List.forall_mem_cons.mpr ⟨rfl, List.forall_mem_cons.mpr ⟨rfl, List.forall_mem_cons.mpr ⟨rfl, List.forall_mem_cons.mpr ⟨congrArg (fun z => some (Value.int z)) hcl, List.forall_mem_cons.mpr ⟨rfl, fun _ h => absurd h List.not_mem_nil⟩⟩⟩⟩⟩⟩) (Nat.zero_le _) (Nat.zero_le _) (LQ n 0 S4 (by omega) hW4 hF4)
          · skip
            refine s_iconst (v := 2) dX4_settle_86 (by decide) ?_
            refine s_goto (tgt := 91) dX4_settle_87 (by decide) ?_
            refine s_cv1G (n := 49) dX4_settle_91 rfl (kv hW.mm (by decide) rfl) rfl (by decide) (by decide) (by decide) (by decide) (Nat.le_of_ble_eq_true rfl) (m_holdsP (p := 2) hW (by decide)) (fun r5 S5 hr5 => ?_) (fun x S2 hr => by obtain ⟨e, -⟩ := hr; cases e)
            obtain ⟨e5, hW5, hG5⟩ := hr5
            cases e5
            have hF5 := hF.tr hG5
            refine s_ifne (tgt := 99) dX4_settle_94 (by decide) (fun c => absurd c (by decide)) (fun _ => ?_)
            refine s_iconst (v := 0) dX4_settle_97 (by decide) ?_
            exact s_reti dX4_settle_98 rfl rfl (NI.of (F := f_X4_settle n no c o) (x := 0) (by unfold f_X4_settle; rw [if_neg c_7, if_neg c_67, if_neg c_83]) hW5 hF5)
        · skip
          refine s_iconst (v := 1) dX4_settle_70 (by decide) ?_
          refine s_goto (tgt := 91) dX4_settle_71 (by decide) ?_
          refine s_cv1G (n := 49) dX4_settle_91 rfl (kv hW.mm (by decide) rfl) rfl (by decide) (by decide) (by decide) (by decide) (Nat.le_of_ble_eq_true rfl) (m_holdsP (p := 1) hW (by decide)) (fun r6 S6 hr6 => ?_) (fun x S2 hr => by obtain ⟨e, -⟩ := hr; cases e)
          obtain ⟨e6, hW6, hG6⟩ := hr6
          cases e6
          have hF6 := hF.tr hG6
          refine s_ifne (tgt := 99) dX4_settle_94 (by decide) (fun c => absurd c (by decide)) (fun _ => ?_)
          refine s_iconst (v := 0) dX4_settle_97 (by decide) ?_
          exact s_reti dX4_settle_98 rfl rfl (NI.of (F := f_X4_settle n no c o) (x := 0) (by unfold f_X4_settle; rw [if_neg c_7, if_pos c_67]) hW6 hF6)
      | succ d ih =>
        intro k hkd
        have hlt : k < n := by omega
        refine s_iload dX4_settle_26 rfl ?_
        refine s_aloadn dX4_settle_28 rfl rfl ?_
        refine s_get (v := .int (c.ti 7)) (n := 68) dX4_settle_29 rfl hW.mm (congrArg Value.int (congrFun hW.ti 7)) ?_
        refine s_icge (tgt := 65) dX4_settle_32 (by decide) (fun c => absurd c (by rw [hcl]; exact nI_ge hlt (by omega))) (fun _ => ?_)
        refine s_iload dX4_settle_35 rfl ?_
        refine s_iloadn dX4_settle_37 rfl rfl ?_
        refine s_ifeq (tgt := 55) dX4_settle_38 (by decide) (fun c_38 => ?_) (fun c_38 => ?_)
        · skip
          refine s_iconst (v := 0) dX4_settle_55 (by decide) ?_
          refine s_iadd dX4_settle_56 ?_
          refine s_istore dX4_settle_57 (by decide) ?_
          refine s_iinc (v := (nI k) + 1) dX4_settle_59 rfl (by rfl) (by decide) ?_
          refine s_goto (tgt := 26) dX4_settle_62 (by decide) ?_
          exact s_sub (lo' := [(0, .ref w.mm), (1, .int o), (2, .int (f_X4_isOffer c o)), (3, .int (f_X4_passed n c (ix o))), (4, .int (g_X4_settle n c o (k + 1))), (5, .int (nI (k + 1)))]) (List.forall_mem_cons.mpr ⟨rfl, List.forall_mem_cons.mpr ⟨rfl, List.forall_mem_cons.mpr ⟨rfl, List.forall_mem_cons.mpr ⟨rfl, List.forall_mem_cons.mpr ⟨congrArg (fun z => some (Value.int z)) (Eq.symm (by rw [g_X4_settle_s, if_pos c_38])), List.forall_mem_cons.mpr ⟨congrArg (fun z => some (Value.int z)) (nI_1 k), fun _ h => absurd h List.not_mem_nil⟩⟩⟩⟩⟩⟩) (Nat.zero_le _) (Nat.zero_le _) (ih (k + 1) (by omega))
        · skip
          refine s_aloadn dX4_settle_41 rfl rfl ?_
          refine s_iload dX4_settle_42 rfl ?_
          refine s_iloadn dX4_settle_44 rfl rfl ?_
          refine s_cv2R (n := 69) dX4_settle_45 rfl (kv hW.mm (by decide) rfl) rfl (by decide) (by decide) (by decide) (by decide) (Nat.le_of_ble_eq_true rfl) (m_X4_goes hW (Nat.lt_of_lt_of_le hlt hn)) ?_
          refine s_ifeq (tgt := 55) dX4_settle_48 (by decide) (fun c_48 => ?_) (fun c_48 => ?_)
          · skip
            refine s_iconst (v := 0) dX4_settle_55 (by decide) ?_
            refine s_iadd dX4_settle_56 ?_
            refine s_istore dX4_settle_57 (by decide) ?_
            refine s_iinc (v := (nI k) + 1) dX4_settle_59 rfl (by rfl) (by decide) ?_
            refine s_goto (tgt := 26) dX4_settle_62 (by decide) ?_
            exact s_sub (lo' := [(0, .ref w.mm), (1, .int o), (2, .int (f_X4_isOffer c o)), (3, .int (f_X4_passed n c (ix o))), (4, .int (g_X4_settle n c o (k + 1))), (5, .int (nI (k + 1)))]) (List.forall_mem_cons.mpr ⟨rfl, List.forall_mem_cons.mpr ⟨rfl, List.forall_mem_cons.mpr ⟨rfl, List.forall_mem_cons.mpr ⟨rfl, List.forall_mem_cons.mpr ⟨congrArg (fun z => some (Value.int z)) (Eq.symm (by rw [g_X4_settle_s, if_neg c_38, if_pos c_48])), List.forall_mem_cons.mpr ⟨congrArg (fun z => some (Value.int z)) (nI_1 k), fun _ h => absurd h List.not_mem_nil⟩⟩⟩⟩⟩⟩) (Nat.zero_le _) (Nat.zero_le _) (ih (k + 1) (by omega))
          · skip
            refine s_iconst (v := 1) dX4_settle_51 (by decide) ?_
            refine s_goto (tgt := 56) dX4_settle_52 (by decide) ?_
            refine s_iadd dX4_settle_56 ?_
            refine s_istore dX4_settle_57 (by decide) ?_
            refine s_iinc (v := (nI k) + 1) dX4_settle_59 rfl (by rfl) (by decide) ?_
            refine s_goto (tgt := 26) dX4_settle_62 (by decide) ?_
            exact s_sub (lo' := [(0, .ref w.mm), (1, .int o), (2, .int (f_X4_isOffer c o)), (3, .int (f_X4_passed n c (ix o))), (4, .int (g_X4_settle n c o (k + 1))), (5, .int (nI (k + 1)))]) (List.forall_mem_cons.mpr ⟨rfl, List.forall_mem_cons.mpr ⟨rfl, List.forall_mem_cons.mpr ⟨rfl, List.forall_mem_cons.mpr ⟨rfl, List.forall_mem_cons.mpr ⟨congrArg (fun z => some (Value.int z)) (Eq.symm (by rw [g_X4_settle_s, if_neg c_38, if_neg c_48])), List.forall_mem_cons.mpr ⟨congrArg (fun z => some (Value.int z)) (nI_1 k), fun _ h => absurd h List.not_mem_nil⟩⟩⟩⟩⟩⟩) (Nat.zero_le _) (Nat.zero_le _) (ih (k + 1) (by omega))
    exact s_sub (lo' := [(0, .ref w.mm), (1, .int o), (2, .int (f_X4_isOffer c o)), (3, .int (f_X4_passed n c (ix o))), (4, .int (g_X4_settle n c o 0)), (5, .int (nI 0))]) (List.forall_mem_cons.mpr ⟨rfl, List.forall_mem_cons.mpr ⟨rfl, List.forall_mem_cons.mpr ⟨rfl, List.forall_mem_cons.mpr ⟨rfl, List.forall_mem_cons.mpr ⟨rfl, List.forall_mem_cons.mpr ⟨rfl, fun _ h => absurd h List.not_mem_nil⟩⟩⟩⟩⟩⟩) (Nat.zero_le _) (Nat.zero_le _) (LP_26 n 0 (by omega))