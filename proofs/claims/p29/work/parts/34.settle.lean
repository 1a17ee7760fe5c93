/-! THE PROGRAM, 15: settle -/
def h_X3_settle (n : Nat) (c : CC) (s : Int32) (j : Nat) : Nat → Nat × CC
  | 0 => (n, c)
  | k + 1 => if i_X3_isInSeries (h_X3_settle n c s j k).2 k s = 0 then h_X3_settle n c s j k else ((h_X3_settle n c s j k).1 + 1, (f_X3_swap (h_X3_settle n c s j k).1 (h_X3_settle n c s j k).2 k (nI k) j).2.2)
theorem h_X3_settle_s {n : Nat} {c : CC} {s : Int32} {j k : Nat} : h_X3_settle n c s j (k + 1) = (if i_X3_isInSeries (h_X3_settle n c s j k).2 k s = 0 then h_X3_settle n c s j k else ((h_X3_settle n c s j k).1 + 1, (f_X3_swap (h_X3_settle n c s j k).1 (h_X3_settle n c s j k).2 k (nI k) j).2.2) : Nat × CC) := rfl
theorem swap_ci {n : Nat} {c : CC} {k i : Nat} {q : Int32} {j : Nat} (h1 : i ≠ k) (h2 : i ≠ n) : (f_X3_swap n c k q j).2.2.ci i = c.ci i := by
  unfold f_X3_swap t_X3_swap f_X0_setTerms
  simp only [CC.pci, CC.pcj, CC.newc, CC.ci, up2_ne h1, up2_ne h2, upr_ne h2]
def cnt (c : CC) (s : Int32) : Nat → Nat
  | 0 => 0
  | k + 1 => if i_X3_isInSeries c k s = 0 then cnt c s k else cnt c s k + 1
theorem cnt_s {c : CC} {s : Int32} {k : Nat} : cnt c s (k + 1) = (if i_X3_isInSeries c k s = 0 then cnt c s k else cnt c s k + 1 : Nat) := rfl
theorem cnt_le {c : CC} {s : Int32} {k : Nat} : cnt c s k ≤ k := by
  induction k with
  | zero => exact Nat.le_refl _
  | succ k ih =>
    rw [cnt_s]
    split <;> omega
theorem cnt_mono {c : CC} {s : Int32} {k d : Nat} : cnt c s k ≤ cnt c s (k + d) := by
  induction d with
  | zero => exact Nat.le_refl _
  | succ d ih =>
    rw [← Nat.add_assoc, cnt_s]
    split <;> omega
theorem inS_cg {c c1 : CC} {k : Nat} {s : Int32} (h : c1.ci k = c.ci k) : i_X3_isInSeries c1 k s = i_X3_isInSeries c k s := by
  unfold i_X3_isInSeries i_X0_isOpen
  rw [h]
theorem h_inv {n : Nat} {c : CC} {s : Int32} {j k : Nat} (hk : k ≤ n) : (h_X3_settle n c s j k).1 = n + cnt c s k ∧ ∀ i, k ≤ i → i < n → (h_X3_settle n c s j k).2.ci i = c.ci i := by
  induction k with
  | zero => exact ⟨rfl, fun _ _ _ => rfl⟩
  | succ k ih =>
    obtain ⟨e1, e2⟩ := ih (by omega)
    have e3 := inS_cg (s := s) (e2 k (Nat.le_refl _) (by omega))
    rw [h_X3_settle_s]
    by_cases hs : i_X3_isInSeries c k s = 0
    · rw [if_pos (e3.trans hs)]
      refine ⟨e1.trans ?_, fun i hi hn => e2 i (by omega) hn⟩
      rw [cnt_s, if_pos hs]
    · rw [if_neg (fun z => hs (e3.symm.trans z))]
      refine ⟨?_, fun i hi hn => (swap_ci (by omega) (by rw [e1]; omega)).trans (e2 i (by omega) hn)⟩
      rw [cnt_s, if_neg hs]
      show (h_X3_settle n c s j k).1 + 1 = _
      rw [e1]
      omega
theorem h_room {n : Nat} {c : CC} {s : Int32} {j k : Nat} (hn : n ≤ 40) (hr : nI n + nI (cnt c s n) ≤ 40) (hk : k < n) (hs : ¬ i_X3_isInSeries (h_X3_settle n c s j k).2 k s = 0) : (h_X3_settle n c s j k).1 < 40 := by
  obtain ⟨e1, e2⟩ := h_inv (n := n) (c := c) (s := s) (j := j) (Nat.le_of_lt hk)
  have hle := @cnt_le c s n
  rw [inS_cg (e2 k (Nat.le_refl _) hk)] at hs
  have h1 : cnt c s (k + 1) = cnt c s k + 1 := if_neg hs
  have h2 := @cnt_mono c s (k + 1) (n - (k + 1))
  rw [show k + 1 + (n - (k + 1)) = n by omega] at h2
  rw [nI_add, Int32.le_iff_toInt_le, nI_toInt (by omega)] at hr
  have hr : ((n + cnt c s n : Nat) : Int) ≤ 40 := hr
  omega
def g_X3_settle (n : Nat) (c : CC) (o : Int32) : Nat → Int32
  | 0 => 0
  | k + 1 => if (i_X3_isInSeries c k (f_X3_seriesToSwap n c (ix o))) = 0 then (g_X3_settle n c o k) + 0 else (g_X3_settle n c o k) + 1
theorem g_X3_settle_s {n : Nat} {c : CC} {o : Int32} {k : Nat} : g_X3_settle n c o (k + 1) = (if (i_X3_isInSeries c k (f_X3_seriesToSwap n c (ix o))) = 0 then (g_X3_settle n c o k) + 0 else (g_X3_settle n c o k) + 1 : Int32) := rfl
theorem g_cnt {n : Nat} {c : CC} {o : Int32} (k : Nat) : g_X3_settle n c o k = nI (cnt c (f_X3_seriesToSwap n c (ix o)) k) := by
  induction k with
  | zero => rfl
  | succ k ih =>
    rw [g_X3_settle_s, ih]
    by_cases hs : i_X3_isInSeries c k (f_X3_seriesToSwap n c (ix o)) = 0
    · rw [if_pos hs, show cnt c (f_X3_seriesToSwap n c (ix o)) (k + 1) = cnt c (f_X3_seriesToSwap n c (ix o)) k from if_pos hs]
      exact Int32.add_zero _
    · rw [if_neg hs, show cnt c (f_X3_seriesToSwap n c (ix o)) (k + 1) = cnt c (f_X3_seriesToSwap n c (ix o)) k + 1 from if_neg hs]
      exact nI_1 _
def f_X3_settle (n no : Nat) (c : CC) (o : Int32) : Out × Nat × CC := if inr o no then (if nI n + (g_X3_settle n c o n) ≤ 40 then (.inl (some (.int (g_X3_settle n c o n))), (h_X3_settle n c (f_X3_seriesToSwap n c (ix o)) (ix o) n).1, f_X1_forgetVotes (h_X3_settle n c (f_X3_seriesToSwap n c (ix o)) (ix o) n).2 (ix o)) else (.inr 2, n, c)) else (.inr 3, n, c)
set_option maxHeartbeats 4000000 in
theorem m_X3_settle {tm : Nat × Nat} {S : Sto} {w : CAd} {c : CC} {o : Int32} (hW : CW tm S w c) (hm : w.m = w.n)  : Ev tm M_X3_settle [.ref w.th, .int o] S (PA tm w.th w.oa w.no w.nt S (f_X3_settle w.n w.no c o)) := by
  have hF : FrC S S := FrC.rf
  refine ev_in ok_X3_settle (Nat.le_of_ble_eq_true rfl) ?_
  have hn40 := hW.n40
  refine s_aloadn dX3_settle_0 rfl rfl ?_
  refine s_iloadn dX3_settle_1 rfl rfl ?_
  by_cases r_2 : inr o w.no
  · refine s_cv1R (n := 29) dX3_settle_2 rfl (kv hW.th (by decide) rfl) rfl (by decide) (by decide) (by decide) (by decide) (Nat.le_of_ble_eq_true rfl) (m_offerAt_ok hW r_2) ?_
    refine s_astoren dX3_settle_5 rfl (by decide) ?_
    refine s_aloadn dX3_settle_6 rfl rfl ?_
    refine s_aloadn dX3_settle_7 rfl rfl ?_
    refine s_cv1R (n := 38) dX3_settle_8 rfl (kv hW.th (by decide) rfl) rfl (by decide) (by decide) (by decide) (by decide) (Nat.le_of_ble_eq_true rfl) (m_X3_seriesToSwap hW (inr_lt r_2 (Nat.le_trans hW.n12 (by decide)))) ?_
    refine s_istoren dX3_settle_11 rfl (by decide) ?_
    refine s_iconst (v := 0) dX3_settle_12 (by decide) ?_
    refine s_istore dX3_settle_13 (by decide) ?_
    refine s_iconst (v := 0) dX3_settle_15 (by decide) ?_
    refine s_istore dX3_settle_16 (by decide) ?_
    have LP_18 : ∀ (d k : Nat), k + d = w.n → Wp (Ev tm) tm M_X3_settle (PA tm w.th w.oa w.no w.nt S (f_X3_settle w.n w.no c o)) 18 [(0, .ref w.th), (1, .int o), (2, .ref (w.oa (ix o))), (3, .int (f_X3_seriesToSwap w.n c (ix o))), (4, .int (g_X3_settle w.n c o k)), (5, .int (nI k))] [] 121 7526 S := by
      intro d
      induction d with
      | zero =>
        intro k hkd
        have hkn : k = w.n := by omega
        subst hkn
        refine s_iload dX3_settle_18 rfl ?_
        refine s_aloadn dX3_settle_20 rfl rfl ?_
        refine s_getR (n := 4) dX3_settle_21 rfl hW.th (fun _ _ _ => rfl) hW.ral ?_
        refine s_cv0R (n := 3) dX3_settle_24 rfl (kv hW.alK (by decide) rfl) rfl (by decide) (by decide) (by decide) (by decide) (Nat.le_of_ble_eq_true rfl) (m_size hW.lc) ?_
        refine s_icge (tgt := 65) dX3_settle_27 (by decide) (fun _ => ?_) (fun c => absurd (Int32.le_refl _) c)
        refine s_aloadn dX3_settle_65 rfl rfl ?_
        refine s_iload dX3_settle_66 rfl ?_
        by_cases r_68 : nI w.n + (g_X3_settle w.n c o w.n) ≤ 40
        · refine s_cv1V (n := 7) dX3_settle_68 rfl (kv hW.th (by decide) rfl) rfl (by decide) (by decide) (by decide) (by decide) (Nat.le_of_ble_eq_true rfl) (m_needRoom_ok hW r_68) ?_
          refine s_aloadn dX3_settle_71 rfl rfl ?_
          refine s_getR (n := 4) dX3_settle_72 rfl hW.th (fun _ _ _ => rfl) hW.ral ?_
          refine s_cv0R (n := 3) dX3_settle_75 rfl (kv hW.alK (by decide) rfl) rfl (by decide) (by decide) (by decide) (by decide) (Nat.le_of_ble_eq_true rfl) (m_size hW.lc) ?_
          refine s_istore dX3_settle_78 (by decide) ?_
          refine s_iconst (v := 0) dX3_settle_80 (by decide) ?_
          refine s_istore dX3_settle_81 (by decide) ?_
          have hg : ∀ k, g_X3_settle w.n c o k = nI (cnt c (f_X3_seriesToSwap w.n c (ix o)) k) := g_cnt
          have hrm := r_68
          rw [hg] at hrm
          have hjo := (inr_lt r_2 (Nat.le_trans hW.n12 (by decide)))
          have LQ : ∀ (d k : Nat) (w1 : CAd) (c1 : CC) (S1 : Sto), k + d = w.n → w1.th = w.th → w1.oa = w.oa → w1.no = w.no → w1.nt = w.nt → w1.m = w1.n → w1.n = (h_X3_settle w.n c (f_X3_seriesToSwap w.n c (ix o)) (ix o) k).1 → c1 = (h_X3_settle w.n c (f_X3_seriesToSwap w.n c (ix o)) (ix o) k).2 → CW tm S1 w1 c1 → FrC S S1 → Wp (Ev tm) tm M_X3_settle (PA tm w.th w.oa w.no w.nt S (f_X3_settle w.n w.no c o)) 83 [(0, .ref w1.th), (2, .ref (w1.oa (ix o))), (3, .int (f_X3_seriesToSwap w.n c (ix o))), (4, .int (g_X3_settle w.n c o w.n)), (5, .int (nI w.n)), (6, .int (nI k))] [] (3 * (40 - w1.n)) (188 * (40 - w1.n)) S1 := by
            intro d
            induction d with
            | zero =>
              intro k w1 c1 S1 hkd e1 e2 e3 e4 hm1 en1 ec hW1 hF1
              have hkn : k = w.n := by omega
              subst hkn
              have hj1 : ix o < w1.no := by rw [e3]; exact hjo
              refine s_iload dX3_settle_83 rfl ?_
              refine s_iload dX3_settle_85 rfl ?_
              refine s_icge (tgt := 128) dX3_settle_87 (by decide) (fun _ => ?_) (fun c => absurd (Int32.le_refl _) c)
              refine s_aloadn dX3_settle_128 rfl rfl ?_
              refine s_cv0G (n := 39) dX3_settle_129 rfl (kv (hW1.oK hj1) (by decide) rfl) rfl (by decide) (by decide) (Nat.zero_le _) (Nat.zero_le _) (Nat.le_of_ble_eq_true rfl) (m_X1_forgetVotes hW1 hj1) (fun r S2 hr => ?_) (fun x S2 hr => by obtain ⟨e, -⟩ := hr; cases e)
              obtain ⟨e, hW2, hF2⟩ := hr
              cases e
              refine s_iload dX3_settle_132 rfl ?_
              exact s_reti dX3_settle_134 rfl rfl (PA.of (w' := w1) (F := f_X3_settle w.n w.no c o) (x := .inl (some (.int (g_X3_settle w.n c o w.n)))) (n := (h_X3_settle w.n c (f_X3_seriesToSwap w.n c (ix o)) (ix o) w.n).1) (G := f_X1_forgetVotes c1 (ix o)) (by rw [ec]; unfold f_X3_settle; rw [if_pos r_2, if_pos r_68]) ⟨e1, e2, e3, e4⟩ en1 hm1 hW2 (hF1.tr hF2))
            | succ d ih =>
              intro k w1 c1 S1 hkd e1 e2 e3 e4 hm1 en1 ec hW1 hF1
              have hlt : k < w.n := by omega
              have hi := (h_inv (n := w.n) (c := c) (s := (f_X3_seriesToSwap w.n c (ix o))) (j := ix o) (Nat.le_of_lt hlt)).1
              have hk1 : k < w1.n := by rw [en1, hi]; omega
              have hk2 : k < w1.m := by omega
              have hj1 : ix o < w1.no := by rw [e3]; exact hjo
              refine s_iload dX3_settle_83 rfl ?_
              refine s_iload dX3_settle_85 rfl ?_
              refine s_icge (tgt := 128) dX3_settle_87 (by decide) (fun c => absurd c (nI_ge hlt (by omega))) (fun _ => ?_)
              refine s_aloadn dX3_settle_90 rfl rfl ?_
              refine s_getR (n := 4) dX3_settle_91 rfl hW1.th (fun _ _ _ => rfl) hW1.ral ?_
              refine s_iload dX3_settle_94 rfl ?_
              refine s_cv1R (n := 11) dX3_settle_96 rfl (kv hW1.alK (by decide) rfl) rfl (by decide) (by decide) (Nat.zero_le _) (Nat.zero_le _) (Nat.le_of_ble_eq_true rfl) (m_get hW1.lc hk1) ?_
              refine s_cast (n := 2) dX3_settle_99 rfl (hW1.cK _ hk2) ?_
              refine s_astore dX3_settle_102 (by decide) ?_
              refine s_aload dX3_settle_104 rfl ?_
              refine s_iloadn dX3_settle_106 rfl rfl ?_
              refine s_cs2R (n := 19) dX3_settle_107 rfl rfl (by decide) (by decide) (Nat.zero_le _) (Nat.zero_le _) (Nat.le_of_ble_eq_true rfl) (mi_X3_isInSeries hW1 hk2) ?_
              refine s_ifeq (tgt := 122) dX3_settle_110 (by decide) (fun cs => ?_) (fun cs => ?_)
              · rw [ec] at cs
                have eh : (h_X3_settle w.n c (f_X3_seriesToSwap w.n c (ix o)) (ix o) (k + 1)) = (h_X3_settle w.n c (f_X3_seriesToSwap w.n c (ix o)) (ix o) k) := by rw [h_X3_settle_s, if_pos cs]
                refine s_iinc (v := nI k + 1) dX3_settle_122 rfl (by rfl) (by decide) ?_
                refine s_goto (tgt := 83) dX3_settle_125 (by decide) ?_
                exact s_sub (lo' := [(0, .ref w1.th), (2, .ref (w1.oa (ix o))), (3, .int (f_X3_seriesToSwap w.n c (ix o))), (4, .int (g_X3_settle w.n c o w.n)), (5, .int (nI w.n)), (6, .int (nI (k + 1)))]) (List.forall_mem_cons.mpr ⟨rfl, List.forall_mem_cons.mpr ⟨rfl, List.forall_mem_cons.mpr ⟨rfl, List.forall_mem_cons.mpr ⟨rfl, List.forall_mem_cons.mpr ⟨rfl, List.forall_mem_cons.mpr ⟨congrArg (fun z => some (Value.int z)) (nI_1 k), fun _ h => absurd h List.not_mem_nil⟩⟩⟩⟩⟩⟩) (by show _ ≤ _ - 0 - 0; omega) (by show _ ≤ _ - 0 - 0; omega) (ih (k + 1) w1 c1 S1 (by omega) e1 e2 e3 e4 hm1 (by rw [eh]; exact en1) (by rw [eh]; exact ec) hW1 hF1)
              · rw [ec] at cs
                have hn1 : w1.n < 40 := by rw [en1]; exact h_room hn40 hrm hlt cs
                have eh : (h_X3_settle w.n c (f_X3_seriesToSwap w.n c (ix o)) (ix o) (k + 1)) = ((h_X3_settle w.n c (f_X3_seriesToSwap w.n c (ix o)) (ix o) k).1 + 1, (f_X3_swap (h_X3_settle w.n c (f_X3_seriesToSwap w.n c (ix o)) (ix o) k).1 (h_X3_settle w.n c (f_X3_seriesToSwap w.n c (ix o)) (ix o) k).2 k (nI k) (ix o)).2.2) := by rw [h_X3_settle_s, if_neg cs]
                refine s_aloadn dX3_settle_113 rfl rfl ?_
                refine s_aload dX3_settle_114 rfl ?_
                refine s_iload dX3_settle_116 rfl ?_
                refine s_aloadn dX3_settle_118 rfl rfl ?_
                refine s_cv3G (n := 30) dX3_settle_119 rfl (kv hW1.th (by decide) rfl) rfl (by decide) (by decide) (by show 3 ≤ 3 * (40 - w1.n) - 0 - 0; omega) (by show 188 ≤ 188 * (40 - w1.n) - 0 - 0; omega) (Nat.le_of_ble_eq_true rfl) (m_X3_swap hW1 hm1 hn1 hk1 hj1) (fun r S2 hr => ?_) (fun x S2 hr => by obtain ⟨e, -⟩ := hr; rw [o_X3_swap] at e; cases e)
                obtain ⟨e, w', ⟨f1, f2, f3, f4⟩, en, em, hW', hG'⟩ := hr
                rw [o_X3_swap] at e
                cases e
                rw [n_X3_swap] at en
                rw [← f1, ← f2]
                refine s_iinc (v := nI k + 1) dX3_settle_122 rfl (by rfl) (by decide) ?_
                refine s_goto (tgt := 83) dX3_settle_125 (by decide) ?_
                exact s_sub (lo' := [(0, .ref w'.th), (2, .ref (w'.oa (ix o))), (3, .int (f_X3_seriesToSwap w.n c (ix o))), (4, .int (g_X3_settle w.n c o w.n)), (5, .int (nI w.n)), (6, .int (nI (k + 1)))]) (List.forall_mem_cons.mpr ⟨rfl, List.forall_mem_cons.mpr ⟨rfl, List.forall_mem_cons.mpr ⟨rfl, List.forall_mem_cons.mpr ⟨rfl, List.forall_mem_cons.mpr ⟨rfl, List.forall_mem_cons.mpr ⟨congrArg (fun z => some (Value.int z)) (nI_1 k), fun _ h => absurd h List.not_mem_nil⟩⟩⟩⟩⟩⟩) (by show 3 * (40 - w'.n) ≤ 3 * (40 - w1.n) - 0 - 0 - 3; rw [en]; omega) (by show 188 * (40 - w'.n) ≤ 188 * (40 - w1.n) - 0 - 0 - 188; rw [en]; omega) (ih (k + 1) w' _ S2 (by omega) (f1.trans e1) (f2.trans e2) (f3.trans e3) (f4.trans e4) em (by rw [eh, en, en1]) (by rw [eh, ← ec, ← en1]) hW' (hF1.tr hG'))
          exact s_sub (lo' := [(0, .ref w.th), (2, .ref (w.oa (ix o))), (3, .int (f_X3_seriesToSwap w.n c (ix o))), (4, .int (g_X3_settle w.n c o w.n)), (5, .int (nI w.n)), (6, .int (nI 0))]) (List.forall_mem_cons.mpr ⟨rfl, List.forall_mem_cons.mpr ⟨rfl, List.forall_mem_cons.mpr ⟨rfl, List.forall_mem_cons.mpr ⟨rfl, List.forall_mem_cons.mpr ⟨rfl, List.forall_mem_cons.mpr ⟨rfl, fun _ h => absurd h List.not_mem_nil⟩⟩⟩⟩⟩⟩) (Nat.le_trans (show 3 * (40 - w.n) ≤ 120 by omega) (by decide)) (Nat.le_trans (show 188 * (40 - w.n) ≤ 7520 by omega) (by decide)) (LQ w.n 0 w c S (by omega) rfl rfl rfl rfl hm rfl rfl hW hF)
        · exact s_cv1T (n := 7) dX3_settle_68 rfl (kv hW.th (by decide) rfl) rfl (by decide) (by decide) (by decide) (by decide) (Nat.le_of_ble_eq_true rfl) (m_needRoom_no hW r_68) rfl (PA.of (w' := w) (F := f_X3_settle w.n w.no c o) (x := .inr 2) (n := w.n) (by unfold f_X3_settle; rw [if_pos r_2, if_neg r_68]) ⟨rfl, rfl, rfl, rfl⟩ rfl hm hW hF)
      | succ d ih =>
        intro k hkd
        have hlt : k < w.n := by omega
        refine s_iload dX3_settle_18 rfl ?_
        refine s_aloadn dX3_settle_20 rfl rfl ?_
        refine s_getR (n := 4) dX3_settle_21 rfl hW.th (fun _ _ _ => rfl) hW.ral ?_
        refine s_cv0R (n := 3) dX3_settle_24 rfl (kv hW.alK (by decide) rfl) rfl (by decide) (by decide) (by decide) (by decide) (Nat.le_of_ble_eq_true rfl) (m_size hW.lc) ?_
        refine s_icge (tgt := 65) dX3_settle_27 (by decide) (fun c => absurd c (nI_ge hlt (by omega))) (fun _ => ?_)
        refine s_iload dX3_settle_30 rfl ?_
        refine s_aloadn dX3_settle_32 rfl rfl ?_
        refine s_getR (n := 4) dX3_settle_33 rfl hW.th (fun _ _ _ => rfl) hW.ral ?_
        refine s_iload dX3_settle_36 rfl ?_
        refine s_cv1R (n := 11) dX3_settle_38 rfl (kv hW.alK (by decide) rfl) rfl (by decide) (by decide) (by decide) (by decide) (Nat.le_of_ble_eq_true rfl) (m_get hW.lc hlt) ?_
        refine s_cast (n := 2) dX3_settle_41 rfl (hW.cK _ (Nat.lt_of_lt_of_le hlt hW.nm)) ?_
        refine s_iloadn dX3_settle_44 rfl rfl ?_
        refine s_cs2R (n := 19) dX3_settle_45 rfl rfl (by decide) (by decide) (by decide) (by decide) (Nat.le_of_ble_eq_true rfl) (mi_X3_isInSeries hW (Nat.lt_of_lt_of_le hlt hW.nm)) ?_
        refine s_ifeq (tgt := 55) dX3_settle_48 (by decide) (fun c_48 => ?_) (fun c_48 => ?_)
        · skip
          refine s_iconst (v := 0) dX3_settle_55 (by decide) ?_
          refine s_iadd dX3_settle_56 ?_
          refine s_istore dX3_settle_57 (by decide) ?_
          refine s_iinc (v := (nI k) + 1) dX3_settle_59 rfl (by rfl) (by decide) ?_
          refine s_goto (tgt := 18) dX3_settle_62 (by decide) ?_
          exact s_sub (lo' := [(0, .ref w.th), (1, .int o), (2, .ref (w.oa (ix o))), (3, .int (f_X3_seriesToSwap w.n c (ix o))), (4, .int (g_X3_settle w.n c o (k + 1))), (5, .int (nI (k + 1)))]) (List.forall_mem_cons.mpr ⟨rfl, List.forall_mem_cons.mpr ⟨rfl, List.forall_mem_cons.mpr ⟨rfl, List.forall_mem_cons.mpr ⟨rfl, List.forall_mem_cons.mpr ⟨congrArg (fun z => some (Value.int z)) (Eq.symm (by rw [g_X3_settle_s, if_pos c_48])), List.forall_mem_cons.mpr ⟨congrArg (fun z => some (Value.int z)) (nI_1 k), fun _ h => absurd h List.not_mem_nil⟩⟩⟩⟩⟩⟩) (by decide) (by decide) (ih (k + 1) (by omega))
        · skip
          refine s_iconst (v := 1) dX3_settle_51 (by decide) ?_
          refine s_goto (tgt := 56) dX3_settle_52 (by decide) ?_
          refine s_iadd dX3_settle_56 ?_
          refine s_istore dX3_settle_57 (by decide) ?_
          refine s_iinc (v := (nI k) + 1) dX3_settle_59 rfl (by rfl) (by decide) ?_
          refine s_goto (tgt := 18) dX3_settle_62 (by decide) ?_
          exact s_sub (lo' := [(0, .ref w.th), (1, .int o), (2, .ref (w.oa (ix o))), (3, .int (f_X3_seriesToSwap w.n c (ix o))), (4, .int (g_X3_settle w.n c o (k + 1))), (5, .int (nI (k + 1)))]) (List.forall_mem_cons.mpr ⟨rfl, List.forall_mem_cons.mpr ⟨rfl, List.forall_mem_cons.mpr ⟨rfl, List.forall_mem_cons.mpr ⟨rfl, List.forall_mem_cons.mpr ⟨congrArg (fun z => some (Value.int z)) (Eq.symm (by rw [g_X3_settle_s, if_neg c_48])), List.forall_mem_cons.mpr ⟨congrArg (fun z => some (Value.int z)) (nI_1 k), fun _ h => absurd h List.not_mem_nil⟩⟩⟩⟩⟩⟩) (by decide) (by decide) (ih (k + 1) (by omega))
    exact s_sub (lo' := [(0, .ref w.th), (1, .int o), (2, .ref (w.oa (ix o))), (3, .int (f_X3_seriesToSwap w.n c (ix o))), (4, .int (g_X3_settle w.n c o 0)), (5, .int (nI 0))]) (List.forall_mem_cons.mpr ⟨rfl, List.forall_mem_cons.mpr ⟨rfl, List.forall_mem_cons.mpr ⟨rfl, List.forall_mem_cons.mpr ⟨rfl, List.forall_mem_cons.mpr ⟨rfl, List.forall_mem_cons.mpr ⟨rfl, fun _ h => absurd h List.not_mem_nil⟩⟩⟩⟩⟩⟩) (by decide) (by decide) (LP_18 w.n 0 (by omega))
  · exact s_cv1T (n := 29) dX3_settle_2 rfl (kv hW.th (by decide) rfl) rfl (by decide) (by decide) (by decide) (by decide) (Nat.le_of_ble_eq_true rfl) (m_offerAt_no hW r_2) rfl (PA.of (w' := w) (F := f_X3_settle w.n w.no c o) (x := .inr 3) (n := w.n) (by unfold f_X3_settle; rw [if_neg r_2]) ⟨rfl, rfl, rfl, rfl⟩ rfl hm hW hF)
