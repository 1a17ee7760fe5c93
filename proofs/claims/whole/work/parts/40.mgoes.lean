/-! THE PROGRAM, 21: the model's year, rank by rank -/
theorem ite_P {P : Int64 × MC → Prop} {q : Prop} {dq : Decidable q} {x y : Int64 × MC} (h1 : P x) (h2 : P y) : P (if q then x else y) := by
  split
  · exact h1
  · exact h2
theorem looks_ti7 {c : MC} {k : Nat} : (f_X4_looksAt c k).2.ti 7 = c.ti 7 := by
  unfold f_X4_looksAt
  repeat' refine ite_P (P := fun z => z.2.ti 7 = c.ti 7) ?_ ?_
  all_goals rfl
theorem looks_ai8 {c : MC} {k : Nat} : (f_X4_looksAt c k).2.ai 8 = c.ai 8 := by
  unfold f_X4_looksAt
  repeat' refine ite_P (P := fun z => z.2.ai 8 = c.ai 8) ?_ ?_
  all_goals rfl
theorem n3 {n : Nat} : 3 * nI n = nI (3 * n) := by
  show Int32.ofNat 3 * Int32.ofNat n = Int32.ofNat (3 * n)
  rw [Int32.ofNat_mul]
theorem nI_div {k n : Nat} (hk : k < 1000) (hn : n < 1000) : nI k / nI n = nI (k / n) := by
  apply Int32.toInt_inj.mp
  have h1 : k / n ≤ k := Nat.div_le_self k n
  rw [Int32.toInt_div, nI_toInt (by omega), nI_toInt (by omega), nI_toInt (by omega), ← Int.ofNat_tdiv]
  generalize k / n = m at *
  apply Int.bmod_eq_of_le <;> omega
theorem nI_rem {k n : Nat} (hk : k < 1000) (hn : n < 1000) : nI k - nI k / nI n * nI n = nI (k % n) := by
  rw [nI_div hk hn]
  have h1 : k / n * n ≤ k := Nat.div_mul_le_self k n
  have e : nI (k / n) * nI n = nI (k / n * n) := by
    show Int32.ofNat (k / n) * Int32.ofNat n = Int32.ofNat (k / n * n)
    rw [Int32.ofNat_mul]
  have h2 := Nat.mod_add_div' k n
  rw [e]
  have h3 : k % n = k - k / n * n := by
    generalize k / n * n = m at *
    omega
  rw [h3]
  generalize k / n * n = m at *
  exact pk_sub (by omega)
def g_X4_goesBy (n : Nat) (c : MC) : Nat → MC
  | 0 => (((c.ptj 2 ((c.tj 2) + (f_X4_down ((c.tj 3) * (((c.ti 5) : Int32).toInt64)) 1000))).ptj 3 ((c.tj 3) + (f_X4_down ((c.tj 3) * (((c.ti 4) : Int32).toInt64)) 10000))).pti 1 ((c.ti 1) + 1))
  | k + 1 => if ((g_X4_goesBy n c k).ai 20 k) = 1 then (if ((g_X4_goesBy n c k).ai 16 k) = 0 then ((g_X4_goesBy n c k).pai 20 k 2) else ((g_X4_goesBy n c k).pai 20 k ((g_X4_goesBy n c k).ai 20 k))) else ((g_X4_goesBy n c k).pai 20 k ((g_X4_goesBy n c k).ai 20 k))
theorem g_X4_goesBy_s {n : Nat} {c : MC} {k : Nat} : g_X4_goesBy n c (k + 1) = (if ((g_X4_goesBy n c k).ai 20 k) = 1 then (if ((g_X4_goesBy n c k).ai 16 k) = 0 then ((g_X4_goesBy n c k).pai 20 k 2) else ((g_X4_goesBy n c k).pai 20 k ((g_X4_goesBy n c k).ai 20 k))) else ((g_X4_goesBy n c k).pai 20 k ((g_X4_goesBy n c k).ai 20 k)) : MC) := rfl
theorem g7a {n : Nat} {c : MC} {k : Nat} : (g_X4_goesBy n c k).ti 7 = c.ti 7 := by
  induction k with
  | zero => rfl
  | succ k ih =>
    rw [g_X4_goesBy_s]
    repeat' split
    all_goals exact ih
theorem g8a {n : Nat} {c : MC} {k : Nat} : (g_X4_goesBy n c k).ai 8 = c.ai 8 := by
  induction k with
  | zero => rfl
  | succ k ih =>
    rw [g_X4_goesBy_s]
    repeat' split
    all_goals exact ih
def g_X4_goesBy1 (n : Nat) (c : MC) : Nat → Int64 × MC
  | 0 => (0, (g_X4_goesBy n c n))
  | k + 1 => if ((g_X4_goesBy1 n c k).2.ai 16 (k % n)) = 0 then (if ((g_X4_goesBy1 n c k).2.ai 13 (k % n)) = (nI (k / n)) then (((g_X4_goesBy1 n c k).1) + ((f_X4_looksAt (g_X4_goesBy1 n c k).2 (k % n)).1), (f_X4_looksAt (g_X4_goesBy1 n c k).2 (k % n)).2) else (((g_X4_goesBy1 n c k).1) + 0, (g_X4_goesBy1 n c k).2)) else (((g_X4_goesBy1 n c k).1) + 0, (g_X4_goesBy1 n c k).2)
theorem g_X4_goesBy1_s {n : Nat} {c : MC} {k : Nat} : g_X4_goesBy1 n c (k + 1) = (if ((g_X4_goesBy1 n c k).2.ai 16 (k % n)) = 0 then (if ((g_X4_goesBy1 n c k).2.ai 13 (k % n)) = (nI (k / n)) then (((g_X4_goesBy1 n c k).1) + ((f_X4_looksAt (g_X4_goesBy1 n c k).2 (k % n)).1), (f_X4_looksAt (g_X4_goesBy1 n c k).2 (k % n)).2) else (((g_X4_goesBy1 n c k).1) + 0, (g_X4_goesBy1 n c k).2)) else (((g_X4_goesBy1 n c k).1) + 0, (g_X4_goesBy1 n c k).2) : Int64 × MC) := rfl
theorem g7b {n : Nat} {c : MC} {k : Nat} : (g_X4_goesBy1 n c k).2.ti 7 = c.ti 7 := by
  induction k with
  | zero => exact g7a
  | succ k ih =>
    rw [g_X4_goesBy1_s]
    repeat' split
    all_goals first | exact ih | exact looks_ti7.trans ih
theorem g8b {n : Nat} {c : MC} {k : Nat} : (g_X4_goesBy1 n c k).2.ai 8 = c.ai 8 := by
  induction k with
  | zero => exact g8a
  | succ k ih =>
    rw [g_X4_goesBy1_s]
    repeat' split
    all_goals first | exact ih | exact looks_ai8.trans ih
def f_X4_goesBy (n : Nat) (c : MC) : Int64 × MC := ((g_X4_goesBy1 n c (3 * n)).1, (g_X4_goesBy1 n c (3 * n)).2)
set_option maxHeartbeats 4000000 in
theorem m_X4_goesBy {tm : Nat × Nat} {S : Sto} {w : MAd} {c : MC} {n : Nat} (hW : MW S w c) (hcl : c.ti 7 = nI n) (hn : n ≤ 40) (hKs : ∀ i, i < n → inr (c.ai 8 i) 5) : Ev tm M_X4_goesBy [.ref w.mm] S (NJ w S (f_X4_goesBy n c)) := by
  have hF : FrM S S := FrM.rf
  refine ev_in ok_X4_goesBy (Nat.le_of_ble_eq_true rfl) ?_
  refine s_aloadn dX4_goesBy_0 rfl rfl ?_
  refine s_dup dX4_goesBy_1 rfl ?_
  refine s_get (v := .long (c.tj 2)) (n := 63) dX4_goesBy_2 rfl hW.mm (congrArg Value.long (congrFun hW.tj 2)) ?_
  refine s_aloadn dX4_goesBy_5 rfl rfl ?_
  refine s_get (v := .long (c.tj 3)) (n := 64) dX4_goesBy_6 rfl hW.mm (congrArg Value.long (congrFun hW.tj 3)) ?_
  refine s_aloadn dX4_goesBy_9 rfl rfl ?_
  refine s_get (v := .int (c.ti 5)) (n := 66) dX4_goesBy_10 rfl hW.mm (congrArg Value.int (congrFun hW.ti 5)) ?_
  refine s_i2l dX4_goesBy_13 ?_
  refine s_lmul dX4_goesBy_14 ?_
  refine s_ldc2 (v := 1000) dX4_goesBy_15 csl_RX4_158 ?_
  refine s_cs2R (n := 25) dX4_goesBy_18 rfl rfl (by decide) (by decide) (by decide) (by decide) (Nat.le_of_ble_eq_true rfl) (m_X4_down (by decide)) ?_
  refine s_ladd dX4_goesBy_21 ?_
  refine s_putJ (n := 63) dX4_goesBy_22 rfl hW.mm (Or.inl rfl) (fun _ _ _ => rfl) rfl rfl ?_
  have hW1 := hW.ptj (k := 2) (v := (c.tj 2) + (f_X4_down ((c.tj 3) * (((c.ti 5) : Int32).toInt64)) 1000))
  have hF1 := hF.uJ (a := w.mm) (k := 2) (v := (c.tj 2) + (f_X4_down ((c.tj 3) * (((c.ti 5) : Int32).toInt64)) 1000)) (kd := 5) hW.mm (by decide)
  refine s_aloadn dX4_goesBy_25 rfl rfl ?_
  refine s_dup dX4_goesBy_26 rfl ?_
  refine s_get (v := .long (c.tj 3)) (n := 64) dX4_goesBy_27 rfl hW1.mm (congrArg Value.long (congrFun hW1.tj 3)) ?_
  refine s_aloadn dX4_goesBy_30 rfl rfl ?_
  refine s_get (v := .long (c.tj 3)) (n := 64) dX4_goesBy_31 rfl hW1.mm (congrArg Value.long (congrFun hW1.tj 3)) ?_
  refine s_aloadn dX4_goesBy_34 rfl rfl ?_
  refine s_get (v := .int (c.ti 4)) (n := 65) dX4_goesBy_35 rfl hW1.mm (congrArg Value.int (congrFun hW1.ti 4)) ?_
  refine s_i2l dX4_goesBy_38 ?_
  refine s_lmul dX4_goesBy_39 ?_
  refine s_ldc2 (v := 10000) dX4_goesBy_40 csl_RX4_146 ?_
  refine s_cs2R (n := 25) dX4_goesBy_43 rfl rfl (by decide) (by decide) (by decide) (by decide) (Nat.le_of_ble_eq_true rfl) (m_X4_down (by decide)) ?_
  refine s_ladd dX4_goesBy_46 ?_
  refine s_putJ (n := 64) dX4_goesBy_47 rfl hW1.mm (Or.inl rfl) (fun _ _ _ => rfl) rfl rfl ?_
  have hW2 := hW1.ptj (k := 3) (v := (c.tj 3) + (f_X4_down ((c.tj 3) * (((c.ti 4) : Int32).toInt64)) 10000))
  have hF2 := hF1.uJ (a := w.mm) (k := 3) (v := (c.tj 3) + (f_X4_down ((c.tj 3) * (((c.ti 4) : Int32).toInt64)) 10000)) (kd := 5) hW1.mm (by decide)
  refine s_aloadn dX4_goesBy_50 rfl rfl ?_
  refine s_dup dX4_goesBy_51 rfl ?_
  refine s_get (v := .int (c.ti 1)) (n := 62) dX4_goesBy_52 rfl hW2.mm (congrArg Value.int (congrFun hW2.ti 1)) ?_
  refine s_iconst (v := 1) dX4_goesBy_55 (by decide) ?_
  refine s_iadd dX4_goesBy_56 ?_
  refine s_putI (n := 62) dX4_goesBy_57 rfl hW2.mm (Or.inl rfl) (fun _ _ _ => rfl) rfl rfl ?_
  have hW3 := hW2.pti (k := 1) (v := (c.ti 1) + 1)
  have hF3 := hF2.uI (a := w.mm) (k := 1) (v := (c.ti 1) + 1) (kd := 5) hW2.mm (by decide)
  refine s_iconst (v := 0) dX4_goesBy_60 (by decide) ?_
  refine s_istoren dX4_goesBy_61 rfl (by decide) ?_
  have LP_62 : ∀ (d k : Nat), k + d = n → ∀ (S1 : Sto), MW S1 w (g_X4_goesBy n c k) → FrM S S1 → Wp (Ev tm) tm M_X4_goesBy (NJ w S (f_X4_goesBy n c)) 62 [(0, .ref w.mm), (1, .int (nI k))] [] 0 0 S1 := by
    intro d
    induction d with
    | zero =>
      intro k hkd S1 hW1 hF1
      have hkn : n = k := by omega
      subst hkn
      refine s_iloadn dX4_goesBy_62 rfl rfl ?_
      refine s_aloadn dX4_goesBy_63 rfl rfl ?_
      refine s_get (v := .int (nI n)) (n := 68) dX4_goesBy_64 rfl hW1.mm (congrArg Value.int ((congrFun hW1.ti 7).trans (by first | exact hcl | exact g7a.trans hcl | exact g7b.trans hcl))) ?_
      refine s_icge (tgt := 111) dX4_goesBy_67 (by decide) (fun _ => ?_) (fun c => absurd (Int32.le_refl _) c)
      refine s_lconst (v := 0) dX4_goesBy_111 (by decide) ?_
      refine s_lstoren dX4_goesBy_112 rfl (by decide) ?_
      refine s_iconst (v := 0) dX4_goesBy_113 (by decide) ?_
      refine s_istoren dX4_goesBy_114 rfl (by decide) ?_
      have LP_115 : ∀ (d k : Nat), k + d = (3 * n) → ∀ (S1 : Sto), MW S1 w ((g_X4_goesBy1 n c k).2) → FrM S S1 → Wp (Ev tm) tm M_X4_goesBy (NJ w S (f_X4_goesBy n c)) 115 [(0, .ref w.mm), (1, .long ((g_X4_goesBy1 n c k).1)), (3, .int (nI k))] [] 0 0 S1 := by
        intro d
        induction d with
        | zero =>
          intro k hkd S1 hW1 hF1
          have hkn : (3 * n) = k := by omega
          subst hkn
          refine s_iloadn dX4_goesBy_115 rfl rfl ?_
          refine s_iconst (v := 3) dX4_goesBy_116 (by decide) ?_
          refine s_aloadn dX4_goesBy_117 rfl rfl ?_
          refine s_get (v := .int (nI n)) (n := 68) dX4_goesBy_118 rfl hW1.mm (congrArg Value.int ((congrFun hW1.ti 7).trans (by first | exact hcl | exact g7a.trans hcl | exact g7b.trans hcl))) ?_
          refine s_imul dX4_goesBy_121 ?_
          refine s_icge (tgt := 178) dX4_goesBy_122 (by decide) (fun _ => ?_) (fun c => absurd (by rw [n3]; exact Int32.le_refl _) c)
          refine s_lloadn dX4_goesBy_178 rfl rfl ?_
          exact s_retl dX4_goesBy_179 rfl (NJ.of (F := f_X4_goesBy n c) (x := (g_X4_goesBy1 n c (3 * n)).1) (by unfold f_X4_goesBy; rfl) hW1 hF1)
        | succ d ih =>
          intro k hkd S1 hW1 hF1
          have hlt : k < (3 * n) := by omega
          refine s_iloadn dX4_goesBy_115 rfl rfl ?_
          refine s_iconst (v := 3) dX4_goesBy_116 (by decide) ?_
          refine s_aloadn dX4_goesBy_117 rfl rfl ?_
          refine s_get (v := .int (nI n)) (n := 68) dX4_goesBy_118 rfl hW1.mm (congrArg Value.int ((congrFun hW1.ti 7).trans (by first | exact hcl | exact g7a.trans hcl | exact g7b.trans hcl))) ?_
          refine s_imul dX4_goesBy_121 ?_
          refine s_icge (tgt := 178) dX4_goesBy_122 (by decide) (fun c => absurd c (by rw [n3]; exact nI_ge hlt (by omega))) (fun _ => ?_)
          refine s_iloadn dX4_goesBy_125 rfl rfl ?_
          refine s_aloadn dX4_goesBy_126 rfl rfl ?_
          refine s_get (v := .int (nI n)) (n := 68) dX4_goesBy_127 rfl hW1.mm (congrArg Value.int ((congrFun hW1.ti 7).trans (by first | exact hcl | exact g7a.trans hcl | exact g7b.trans hcl))) ?_
          refine s_irem dX4_goesBy_130 (fun e => absurd ((nI_eq (a := n) (b := 0) (by omega) (by decide)).mp e) (by omega)) ?_
          rw [show (nI k) - (nI k) / (nI n) * (nI n) = nI (k % n) from nI_rem (by omega) (by omega)]
          refine s_istore dX4_goesBy_131 (by decide) ?_
          refine s_lloadn dX4_goesBy_133 rfl rfl ?_
          refine s_aloadn dX4_goesBy_134 rfl rfl ?_
          refine s_getR (n := 77) dX4_goesBy_135 rfl hW1.mm (fun _ _ _ => rfl) (hW1.rr 16 (by decide)).1 ?_
          refine s_iload dX4_goesBy_138 rfl ?_
          refine s_iald' (j := (k % n)) dX4_goesBy_140 ((hW1.rr 16 (by decide)).2.1) rfl (by rw [(hW1.rr 16 (by decide)).2.2]; exact (Nat.lt_of_lt_of_le (Nat.mod_lt _ (show 0 < n by omega)) hn)) (by rw [(hW1.rr 16 (by decide)).2.2]; decide) ?_
          rw [hW1.ai 16 (by decide)]
          refine s_ifne (tgt := 169) dX4_goesBy_141 (by decide) (fun c_141 => ?_) (fun c_141 => ?_)
          · skip
            refine s_lconst (v := 0) dX4_goesBy_169 (by decide) ?_
            refine s_ladd dX4_goesBy_170 ?_
            refine s_lstoren dX4_goesBy_171 rfl (by decide) ?_
            refine s_iinc (v := (nI k) + 1) dX4_goesBy_172 rfl (by rfl) (by decide) ?_
            refine s_goto (tgt := 115) dX4_goesBy_175 (by decide) ?_
            exact s_sub (lo' := [(0, .ref w.mm), (1, .long ((g_X4_goesBy1 n c (k + 1)).1)), (3, .int (nI (k + 1)))]) (List.forall_mem_cons.mpr ⟨rfl, List.forall_mem_cons.mpr ⟨congrArg (fun z => some (Value.long z)) (Eq.symm (by rw [g_X4_goesBy1_s, if_neg c_141])), List.forall_mem_cons.mpr ⟨congrArg (fun z => some (Value.int z)) (nI_1 k), fun _ h => absurd h List.not_mem_nil⟩⟩⟩) (Nat.zero_le _) (Nat.zero_le _) (ih (k + 1) (by omega) S1 (by rw [g_X4_goesBy1_s, if_neg c_141]; exact hW1) hF1)
          · skip
            refine s_aloadn dX4_goesBy_144 rfl rfl ?_
            refine s_getR (n := 74) dX4_goesBy_145 rfl hW1.mm (fun _ _ _ => rfl) (hW1.rr 13 (by decide)).1 ?_
            refine s_iload dX4_goesBy_148 rfl ?_
            refine s_iald' (j := (k % n)) dX4_goesBy_150 ((hW1.rr 13 (by decide)).2.1) rfl (by rw [(hW1.rr 13 (by decide)).2.2]; exact (Nat.lt_of_lt_of_le (Nat.mod_lt _ (show 0 < n by omega)) hn)) (by rw [(hW1.rr 13 (by decide)).2.2]; decide) ?_
            rw [hW1.ai 13 (by decide)]
            refine s_iloadn dX4_goesBy_151 rfl rfl ?_
            refine s_aloadn dX4_goesBy_152 rfl rfl ?_
            refine s_get (v := .int (nI n)) (n := 68) dX4_goesBy_153 rfl hW1.mm (congrArg Value.int ((congrFun hW1.ti 7).trans (by first | exact hcl | exact g7a.trans hcl | exact g7b.trans hcl))) ?_
            refine s_idiv dX4_goesBy_156 (fun e => absurd ((nI_eq (a := n) (b := 0) (by omega) (by decide)).mp e) (by omega)) ?_
            rw [show (nI k) / (nI n) = nI (k / n) from nI_div (by omega) (by omega)]
            refine s_icne (tgt := 169) dX4_goesBy_157 (by decide) (fun c_157 => ?_) (fun c_157 => ?_)
            · skip
              refine s_lconst (v := 0) dX4_goesBy_169 (by decide) ?_
              refine s_ladd dX4_goesBy_170 ?_
              refine s_lstoren dX4_goesBy_171 rfl (by decide) ?_
              refine s_iinc (v := (nI k) + 1) dX4_goesBy_172 rfl (by rfl) (by decide) ?_
              refine s_goto (tgt := 115) dX4_goesBy_175 (by decide) ?_
              exact s_sub (lo' := [(0, .ref w.mm), (1, .long ((g_X4_goesBy1 n c (k + 1)).1)), (3, .int (nI (k + 1)))]) (List.forall_mem_cons.mpr ⟨rfl, List.forall_mem_cons.mpr ⟨congrArg (fun z => some (Value.long z)) (Eq.symm (by rw [g_X4_goesBy1_s, if_pos c_141, if_neg c_157])), List.forall_mem_cons.mpr ⟨congrArg (fun z => some (Value.int z)) (nI_1 k), fun _ h => absurd h List.not_mem_nil⟩⟩⟩) (Nat.zero_le _) (Nat.zero_le _) (ih (k + 1) (by omega) S1 (by rw [g_X4_goesBy1_s, if_pos c_141, if_neg c_157]; exact hW1) hF1)
            · skip
              refine s_aloadn dX4_goesBy_160 rfl rfl ?_
              refine s_iload dX4_goesBy_161 rfl ?_
              refine s_cv1G (n := 56) dX4_goesBy_163 rfl (kv hW1.mm (by decide) rfl) rfl (by decide) (by decide) (by decide) (by decide) (Nat.le_of_ble_eq_true rfl) (m_X4_looksAt hW1 (Nat.lt_of_lt_of_le (Nat.mod_lt _ (show 0 < n by omega)) hn) (by rw [g8b]; exact hKs _ (Nat.mod_lt _ (show 0 < n by omega)))) (fun r8 S8 hr8 => ?_) (fun x S2 hr => by obtain ⟨e, -⟩ := hr; cases e)
              obtain ⟨e8, hW8, hG8⟩ := hr8
              cases e8
              have hF8 := hF1.tr hG8
              refine s_goto (tgt := 170) dX4_goesBy_166 (by decide) ?_
              refine s_ladd dX4_goesBy_170 ?_
              refine s_lstoren dX4_goesBy_171 rfl (by decide) ?_
              refine s_iinc (v := (nI k) + 1) dX4_goesBy_172 rfl (by rfl) (by decide) ?_
              refine s_goto (tgt := 115) dX4_goesBy_175 (by decide) ?_
              exact s_sub (lo' := [(0, .ref w.mm), (1, .long ((g_X4_goesBy1 n c (k + 1)).1)), (3, .int (nI (k + 1)))]) (List.forall_mem_cons.mpr ⟨rfl, List.forall_mem_cons.mpr ⟨congrArg (fun z => some (Value.long z)) (Eq.symm (by rw [g_X4_goesBy1_s, if_pos c_141, if_pos c_157])), List.forall_mem_cons.mpr ⟨congrArg (fun z => some (Value.int z)) (nI_1 k), fun _ h => absurd h List.not_mem_nil⟩⟩⟩) (Nat.zero_le _) (Nat.zero_le _) (ih (k + 1) (by omega) S8 (by rw [g_X4_goesBy1_s, if_pos c_141, if_pos c_157]; exact hW8) hF8)
      exact s_sub (lo' := [(0, .ref w.mm), (1, .long ((g_X4_goesBy1 n c 0).1)), (3, .int (nI 0))]) (List.forall_mem_cons.mpr ⟨rfl, List.forall_mem_cons.mpr ⟨rfl, List.forall_mem_cons.mpr ⟨rfl, fun _ h => absurd h List.not_mem_nil⟩⟩⟩) (Nat.zero_le _) (Nat.zero_le _) (LP_115 (3 * n) 0 (by omega) S1 hW1 hF1)
    | succ d ih =>
      intro k hkd S1 hW1 hF1
      have hlt : k < n := by omega
      refine s_iloadn dX4_goesBy_62 rfl rfl ?_
      refine s_aloadn dX4_goesBy_63 rfl rfl ?_
      refine s_get (v := .int (nI n)) (n := 68) dX4_goesBy_64 rfl hW1.mm (congrArg Value.int ((congrFun hW1.ti 7).trans (by first | exact hcl | exact g7a.trans hcl | exact g7b.trans hcl))) ?_
      refine s_icge (tgt := 111) dX4_goesBy_67 (by decide) (fun c => absurd c (nI_ge hlt (by omega))) (fun _ => ?_)
      refine s_aloadn dX4_goesBy_70 rfl rfl ?_
      refine s_getR (n := 81) dX4_goesBy_71 rfl hW1.mm (fun _ _ _ => rfl) (hW1.rr 20 (by decide)).1 ?_
      refine s_iloadn dX4_goesBy_74 rfl rfl ?_
      refine s_aloadn dX4_goesBy_75 rfl rfl ?_
      refine s_getR (n := 81) dX4_goesBy_76 rfl hW1.mm (fun _ _ _ => rfl) (hW1.rr 20 (by decide)).1 ?_
      refine s_iloadn dX4_goesBy_79 rfl rfl ?_
      refine s_iald' (j := k) dX4_goesBy_80 ((hW1.rr 20 (by decide)).2.1) rfl (by rw [(hW1.rr 20 (by decide)).2.2]; exact (Nat.lt_of_lt_of_le hlt hn)) (by rw [(hW1.rr 20 (by decide)).2.2]; decide) ?_
      rw [hW1.ai 20 (by decide)]
      refine s_iconst (v := 1) dX4_goesBy_81 (by decide) ?_
      refine s_icne (tgt := 98) dX4_goesBy_82 (by decide) (fun c_82 => ?_) (fun c_82 => ?_)
      · skip
        refine s_aloadn dX4_goesBy_98 rfl rfl ?_
        refine s_getR (n := 81) dX4_goesBy_99 rfl hW1.mm (fun _ _ _ => rfl) (hW1.rr 20 (by decide)).1 ?_
        refine s_iloadn dX4_goesBy_102 rfl rfl ?_
        refine s_iald' (j := k) dX4_goesBy_103 ((hW1.rr 20 (by decide)).2.1) rfl (by rw [(hW1.rr 20 (by decide)).2.2]; exact (Nat.lt_of_lt_of_le hlt hn)) (by rw [(hW1.rr 20 (by decide)).2.2]; decide) ?_
        rw [hW1.ai 20 (by decide)]
        refine s_iast' (j := k) dX4_goesBy_104 ((hW1.rr 20 (by decide)).2.1) rfl (by rw [(hW1.rr 20 (by decide)).2.2]; exact (Nat.lt_of_lt_of_le hlt hn)) (by rw [(hW1.rr 20 (by decide)).2.2]; decide) ?_
        have hW9 := hW1.pai (f := 20) (by decide) (k := k) (v := ((g_X4_goesBy n c k).ai 20 k))
        have hF9 := hF1.uI (a := (w.ar 20)) (k := k) (v := ((g_X4_goesBy n c k).ai 20 k)) (kd := 6) ((hW1.rr 20 (by decide)).2.1) (by decide)
        refine s_iinc (v := (nI k) + 1) dX4_goesBy_105 rfl (by rfl) (by decide) ?_
        refine s_goto (tgt := 62) dX4_goesBy_108 (by decide) ?_
        exact s_sub (lo' := [(0, .ref w.mm), (1, .int (nI (k + 1)))]) (List.forall_mem_cons.mpr ⟨rfl, List.forall_mem_cons.mpr ⟨congrArg (fun z => some (Value.int z)) (nI_1 k), fun _ h => absurd h List.not_mem_nil⟩⟩) (Nat.zero_le _) (Nat.zero_le _) (ih (k + 1) (by omega) (uI S1 (w.ar 20) k ((g_X4_goesBy n c k).ai 20 k)) (by rw [g_X4_goesBy_s, if_neg c_82]; exact hW9) hF9)
      · skip
        refine s_aloadn dX4_goesBy_85 rfl rfl ?_
        refine s_getR (n := 77) dX4_goesBy_86 rfl hW1.mm (fun _ _ _ => rfl) (hW1.rr 16 (by decide)).1 ?_
        refine s_iloadn dX4_goesBy_89 rfl rfl ?_
        refine s_iald' (j := k) dX4_goesBy_90 ((hW1.rr 16 (by decide)).2.1) rfl (by rw [(hW1.rr 16 (by decide)).2.2]; exact (Nat.lt_of_lt_of_le hlt hn)) (by rw [(hW1.rr 16 (by decide)).2.2]; decide) ?_
        rw [hW1.ai 16 (by decide)]
        refine s_ifne (tgt := 98) dX4_goesBy_91 (by decide) (fun c_91 => ?_) (fun c_91 => ?_)
        · skip
          refine s_aloadn dX4_goesBy_98 rfl rfl ?_
          refine s_getR (n := 81) dX4_goesBy_99 rfl hW1.mm (fun _ _ _ => rfl) (hW1.rr 20 (by decide)).1 ?_
          refine s_iloadn dX4_goesBy_102 rfl rfl ?_
          refine s_iald' (j := k) dX4_goesBy_103 ((hW1.rr 20 (by decide)).2.1) rfl (by rw [(hW1.rr 20 (by decide)).2.2]; exact (Nat.lt_of_lt_of_le hlt hn)) (by rw [(hW1.rr 20 (by decide)).2.2]; decide) ?_
          rw [hW1.ai 20 (by decide)]
          refine s_iast' (j := k) dX4_goesBy_104 ((hW1.rr 20 (by decide)).2.1) rfl (by rw [(hW1.rr 20 (by decide)).2.2]; exact (Nat.lt_of_lt_of_le hlt hn)) (by rw [(hW1.rr 20 (by decide)).2.2]; decide) ?_
          have hW10 := hW1.pai (f := 20) (by decide) (k := k) (v := ((g_X4_goesBy n c k).ai 20 k))
          have hF10 := hF1.uI (a := (w.ar 20)) (k := k) (v := ((g_X4_goesBy n c k).ai 20 k)) (kd := 6) ((hW1.rr 20 (by decide)).2.1) (by decide)
          refine s_iinc (v := (nI k) + 1) dX4_goesBy_105 rfl (by rfl) (by decide) ?_
          refine s_goto (tgt := 62) dX4_goesBy_108 (by decide) ?_
          exact s_sub (lo' := [(0, .ref w.mm), (1, .int (nI (k + 1)))]) (List.forall_mem_cons.mpr ⟨rfl, List.forall_mem_cons.mpr ⟨congrArg (fun z => some (Value.int z)) (nI_1 k), fun _ h => absurd h List.not_mem_nil⟩⟩) (Nat.zero_le _) (Nat.zero_le _) (ih (k + 1) (by omega) (uI S1 (w.ar 20) k ((g_X4_goesBy n c k).ai 20 k)) (by rw [g_X4_goesBy_s, if_pos c_82, if_neg c_91]; exact hW10) hF10)
        · skip
          refine s_iconst (v := 2) dX4_goesBy_94 (by decide) ?_
          refine s_goto (tgt := 104) dX4_goesBy_95 (by decide) ?_
          refine s_iast' (j := k) dX4_goesBy_104 ((hW1.rr 20 (by decide)).2.1) rfl (by rw [(hW1.rr 20 (by decide)).2.2]; exact (Nat.lt_of_lt_of_le hlt hn)) (by rw [(hW1.rr 20 (by decide)).2.2]; decide) ?_
          have hW11 := hW1.pai (f := 20) (by decide) (k := k) (v := 2)
          have hF11 := hF1.uI (a := (w.ar 20)) (k := k) (v := 2) (kd := 6) ((hW1.rr 20 (by decide)).2.1) (by decide)
          refine s_iinc (v := (nI k) + 1) dX4_goesBy_105 rfl (by rfl) (by decide) ?_
          refine s_goto (tgt := 62) dX4_goesBy_108 (by decide) ?_
          exact s_sub (lo' := [(0, .ref w.mm), (1, .int (nI (k + 1)))]) (List.forall_mem_cons.mpr ⟨rfl, List.forall_mem_cons.mpr ⟨congrArg (fun z => some (Value.int z)) (nI_1 k), fun _ h => absurd h List.not_mem_nil⟩⟩) (Nat.zero_le _) (Nat.zero_le _) (ih (k + 1) (by omega) (uI S1 (w.ar 20) k 2) (by rw [g_X4_goesBy_s, if_pos c_82, if_pos c_91]; exact hW11) hF11)
  exact s_sub (lo' := [(0, .ref w.mm), (1, .int (nI 0))]) (List.forall_mem_cons.mpr ⟨rfl, List.forall_mem_cons.mpr ⟨rfl, fun _ h => absurd h List.not_mem_nil⟩⟩) (Nat.zero_le _) (Nat.zero_le _) (LP_62 n 0 (by omega) (uI (uJ (uJ S w.mm 2 ((c.tj 2) + (f_X4_down ((c.tj 3) * (((c.ti 5) : Int32).toInt64)) 1000))) w.mm 3 ((c.tj 3) + (f_X4_down ((c.tj 3) * (((c.ti 4) : Int32).toInt64)) 10000))) w.mm 1 ((c.ti 1) + 1)) hW3 hF3)