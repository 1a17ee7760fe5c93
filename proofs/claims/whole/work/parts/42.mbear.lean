/-! THE PROGRAM, 23: the model's isBearable, thrown, swaps -/
def g_X4_isBearable (n : Nat) (c : MC) : Nat → Int64 × Int64 × Int32
  | 0 => ((f_X4_debt n (c.pti 0 0)), (c.tj 3), 1)
  | k + 1 => if 0 ≤ ((((g_X4_isBearable n c k).1) + ((((g_X4_isBearable n c k).1) * (((c.ti 6) : Int32).toInt64)) / 10000)) - (f_X4_down (((g_X4_isBearable n c k).2.1) * (((c.ti 5) : Int32).toInt64)) 1000)) then (if ((g_X4_isBearable n c k).2.2) = 0 then ((((g_X4_isBearable n c k).1) + ((((g_X4_isBearable n c k).1) * (((c.ti 6) : Int32).toInt64)) / 10000)) - (f_X4_down (((g_X4_isBearable n c k).2.1) * (((c.ti 5) : Int32).toInt64)) 1000), ((g_X4_isBearable n c k).2.1) + (f_X4_down (((g_X4_isBearable n c k).2.1) * (((c.ti 4) : Int32).toInt64)) 10000), 0) else (if (120 * (((g_X4_isBearable n c k).2.1) + (f_X4_down (((g_X4_isBearable n c k).2.1) * (((c.ti 4) : Int32).toInt64)) 10000))) < (100 * ((((g_X4_isBearable n c k).1) + ((((g_X4_isBearable n c k).1) * (((c.ti 6) : Int32).toInt64)) / 10000)) - (f_X4_down (((g_X4_isBearable n c k).2.1) * (((c.ti 5) : Int32).toInt64)) 1000))) then ((((g_X4_isBearable n c k).1) + ((((g_X4_isBearable n c k).1) * (((c.ti 6) : Int32).toInt64)) / 10000)) - (f_X4_down (((g_X4_isBearable n c k).2.1) * (((c.ti 5) : Int32).toInt64)) 1000), ((g_X4_isBearable n c k).2.1) + (f_X4_down (((g_X4_isBearable n c k).2.1) * (((c.ti 4) : Int32).toInt64)) 10000), 0) else ((((g_X4_isBearable n c k).1) + ((((g_X4_isBearable n c k).1) * (((c.ti 6) : Int32).toInt64)) / 10000)) - (f_X4_down (((g_X4_isBearable n c k).2.1) * (((c.ti 5) : Int32).toInt64)) 1000), ((g_X4_isBearable n c k).2.1) + (f_X4_down (((g_X4_isBearable n c k).2.1) * (((c.ti 4) : Int32).toInt64)) 10000), 1))) else (if ((g_X4_isBearable n c k).2.2) = 0 then (0, ((g_X4_isBearable n c k).2.1) + (f_X4_down (((g_X4_isBearable n c k).2.1) * (((c.ti 4) : Int32).toInt64)) 10000), 0) else (if (120 * (((g_X4_isBearable n c k).2.1) + (f_X4_down (((g_X4_isBearable n c k).2.1) * (((c.ti 4) : Int32).toInt64)) 10000))) < (100 * 0) then (0, ((g_X4_isBearable n c k).2.1) + (f_X4_down (((g_X4_isBearable n c k).2.1) * (((c.ti 4) : Int32).toInt64)) 10000), 0) else (0, ((g_X4_isBearable n c k).2.1) + (f_X4_down (((g_X4_isBearable n c k).2.1) * (((c.ti 4) : Int32).toInt64)) 10000), 1)))
theorem g_X4_isBearable_s {n : Nat} {c : MC} {k : Nat} : g_X4_isBearable n c (k + 1) = (if 0 ≤ ((((g_X4_isBearable n c k).1) + ((((g_X4_isBearable n c k).1) * (((c.ti 6) : Int32).toInt64)) / 10000)) - (f_X4_down (((g_X4_isBearable n c k).2.1) * (((c.ti 5) : Int32).toInt64)) 1000)) then (if ((g_X4_isBearable n c k).2.2) = 0 then ((((g_X4_isBearable n c k).1) + ((((g_X4_isBearable n c k).1) * (((c.ti 6) : Int32).toInt64)) / 10000)) - (f_X4_down (((g_X4_isBearable n c k).2.1) * (((c.ti 5) : Int32).toInt64)) 1000), ((g_X4_isBearable n c k).2.1) + (f_X4_down (((g_X4_isBearable n c k).2.1) * (((c.ti 4) : Int32).toInt64)) 10000), 0) else (if (120 * (((g_X4_isBearable n c k).2.1) + (f_X4_down (((g_X4_isBearable n c k).2.1) * (((c.ti 4) : Int32).toInt64)) 10000))) < (100 * ((((g_X4_isBearable n c k).1) + ((((g_X4_isBearable n c k).1) * (((c.ti 6) : Int32).toInt64)) / 10000)) - (f_X4_down (((g_X4_isBearable n c k).2.1) * (((c.ti 5) : Int32).toInt64)) 1000))) then ((((g_X4_isBearable n c k).1) + ((((g_X4_isBearable n c k).1) * (((c.ti 6) : Int32).toInt64)) / 10000)) - (f_X4_down (((g_X4_isBearable n c k).2.1) * (((c.ti 5) : Int32).toInt64)) 1000), ((g_X4_isBearable n c k).2.1) + (f_X4_down (((g_X4_isBearable n c k).2.1) * (((c.ti 4) : Int32).toInt64)) 10000), 0) else ((((g_X4_isBearable n c k).1) + ((((g_X4_isBearable n c k).1) * (((c.ti 6) : Int32).toInt64)) / 10000)) - (f_X4_down (((g_X4_isBearable n c k).2.1) * (((c.ti 5) : Int32).toInt64)) 1000), ((g_X4_isBearable n c k).2.1) + (f_X4_down (((g_X4_isBearable n c k).2.1) * (((c.ti 4) : Int32).toInt64)) 10000), 1))) else (if ((g_X4_isBearable n c k).2.2) = 0 then (0, ((g_X4_isBearable n c k).2.1) + (f_X4_down (((g_X4_isBearable n c k).2.1) * (((c.ti 4) : Int32).toInt64)) 10000), 0) else (if (120 * (((g_X4_isBearable n c k).2.1) + (f_X4_down (((g_X4_isBearable n c k).2.1) * (((c.ti 4) : Int32).toInt64)) 10000))) < (100 * 0) then (0, ((g_X4_isBearable n c k).2.1) + (f_X4_down (((g_X4_isBearable n c k).2.1) * (((c.ti 4) : Int32).toInt64)) 10000), 0) else (0, ((g_X4_isBearable n c k).2.1) + (f_X4_down (((g_X4_isBearable n c k).2.1) * (((c.ti 4) : Int32).toInt64)) 10000), 1))) : Int64 × Int64 × Int32) := rfl
def f_X4_isBearable (n : Nat) (c : MC) (y : Int32) : Int32 × MC := if (f_X4_isIn y 1 30) = 0 then (0, (c.pti 0 1)) else (if ((g_X4_isBearable n c (ix y)).2.2) = 0 then (0, (c.pti 0 0)) else (if ((1000000 * (f_X4_debt n (c.pti 0 0))) / (c.tj 3)) < ((1000000 * ((g_X4_isBearable n c (ix y)).1)) / ((g_X4_isBearable n c (ix y)).2.1)) then (0, (c.pti 0 0)) else (1, (c.pti 0 0))))
set_option maxHeartbeats 4000000 in
theorem m_X4_isBearable {tm : Nat × Nat} {S : Sto} {w : MAd} {c : MC} {n : Nat} {y : Int32} (hW : MW S w c) (hcl : c.ti 7 = nI n) (hn : n ≤ 40) (hth : ¬ f_X4_isIn y 1 30 = 0 → ¬ (g_X4_isBearable n c (ix y)).2.1 = 0) (hout : ¬ c.tj 3 = 0)  : Ev tm M_X4_isBearable [.ref w.mm, .int y] S (NI w S (f_X4_isBearable n c y)) := by
  have hF : FrM S S := FrM.rf
  refine ev_in ok_X4_isBearable (Nat.le_of_ble_eq_true rfl) ?_
  refine s_aloadn dX4_isBearable_0 rfl rfl ?_
  refine s_iloadn dX4_isBearable_1 rfl rfl ?_
  refine s_iconst (v := 1) dX4_isBearable_2 (by decide) ?_
  refine s_bipush (v := 30) dX4_isBearable_3 (by decide) ?_
  refine s_cs3R (n := 23) dX4_isBearable_5 rfl rfl (by decide) (by decide) (by decide) (by decide) (Nat.le_of_ble_eq_true rfl) (m_X4_isIn) ?_
  refine s_ifeq (tgt := 15) dX4_isBearable_8 (by decide) (fun c_8 => ?_) (fun c_8 => ?_)
  · skip
    refine s_iconst (v := 1) dX4_isBearable_15 (by decide) ?_
    refine s_cv1G (n := 49) dX4_isBearable_16 rfl (kv hW.mm (by decide) rfl) rfl (by decide) (by decide) (by decide) (by decide) (Nat.le_of_ble_eq_true rfl) (m_holdsP (p := 1) hW (by decide)) (fun r1 S1 hr1 => ?_) (fun x S2 hr => by obtain ⟨e, -⟩ := hr; cases e)
    obtain ⟨e1, hW1, hG1⟩ := hr1
    cases e1
    have hF1 := hF.tr hG1
    refine s_ifne (tgt := 24) dX4_isBearable_19 (by decide) (fun c => absurd c (by decide)) (fun _ => ?_)
    refine s_iconst (v := 0) dX4_isBearable_22 (by decide) ?_
    exact s_reti dX4_isBearable_23 rfl rfl (NI.of (F := f_X4_isBearable n c y) (x := 0) (by unfold f_X4_isBearable; rw [if_pos c_8]) hW1 hF1)
  · skip
    refine s_iconst (v := 0) dX4_isBearable_11 (by decide) ?_
    refine s_goto (tgt := 16) dX4_isBearable_12 (by decide) ?_
    refine s_cv1G (n := 49) dX4_isBearable_16 rfl (kv hW.mm (by decide) rfl) rfl (by decide) (by decide) (by decide) (by decide) (Nat.le_of_ble_eq_true rfl) (m_holds0 hW) (fun r2 S2 hr2 => ?_) (fun x S2 hr => by obtain ⟨e, -⟩ := hr; cases e)
    obtain ⟨e2, hW2, hG2⟩ := hr2
    cases e2
    have hF2 := hF.tr hG2
    refine s_ifne (tgt := 24) dX4_isBearable_19 (by decide) (fun _ => ?_) (fun c => absurd c (by decide))
    refine s_aloadn dX4_isBearable_24 rfl rfl ?_
    refine s_cv0R (n := 53) dX4_isBearable_25 rfl (kv hW2.mm (by decide) rfl) rfl (by decide) (by decide) (by decide) (by decide) (Nat.le_of_ble_eq_true rfl) (m_X4_debt hW2 hcl hn) ?_
    refine s_lstoren dX4_isBearable_28 rfl (by decide) ?_
    refine s_lloadn dX4_isBearable_29 rfl rfl ?_
    refine s_lstore dX4_isBearable_30 (by decide) ?_
    refine s_aloadn dX4_isBearable_32 rfl rfl ?_
    refine s_get (v := .long (c.tj 3)) (n := 64) dX4_isBearable_33 rfl hW2.mm (congrArg Value.long (congrFun hW2.tj 3)) ?_
    refine s_lstore dX4_isBearable_36 (by decide) ?_
    refine s_iconst (v := 1) dX4_isBearable_38 (by decide) ?_
    refine s_istore dX4_isBearable_39 (by decide) ?_
    refine s_iconst (v := 0) dX4_isBearable_41 (by decide) ?_
    refine s_istore dX4_isBearable_42 (by decide) ?_
    have LP_44 : ∀ (d k : Nat), k + d = (ix y) → Wp (Ev tm) tm M_X4_isBearable (NI w S (f_X4_isBearable n c y)) 44 [(0, .ref w.mm), (1, .int y), (2, .long (f_X4_debt n (c.pti 0 0))), (4, .long ((g_X4_isBearable n c k).1)), (6, .long ((g_X4_isBearable n c k).2.1)), (8, .int ((g_X4_isBearable n c k).2.2)), (9, .int (nI k))] [] 0 0 S2 := by
      intro d
      induction d with
      | zero =>
        intro k hkd
        have hkn : (ix y) = k := by omega
        subst hkn
        refine s_iload dX4_isBearable_44 rfl ?_
        refine s_iloadn dX4_isBearable_46 rfl rfl ?_
        refine s_icge (tgt := 154) dX4_isBearable_47 (by decide) (fun _ => ?_) (fun c => absurd (ixz (isI c_8)) c)
        refine s_iload dX4_isBearable_154 rfl ?_
        refine s_ifeq (tgt := 186) dX4_isBearable_156 (by decide) (fun c_156 => ?_) (fun c_156 => ?_)
        · skip
          refine s_iconst (v := 0) dX4_isBearable_186 (by decide) ?_
          exact s_reti dX4_isBearable_187 rfl rfl (NI.of (F := f_X4_isBearable n c y) (x := 0) (by unfold f_X4_isBearable; rw [if_neg c_8, if_pos c_156]) hW2 hF2)
        · skip
          refine s_ldc2 (v := 1000000) dX4_isBearable_159 csl_RX4_7 ?_
          refine s_lload dX4_isBearable_162 rfl ?_
          refine s_lmul dX4_isBearable_164 ?_
          refine s_lload dX4_isBearable_165 rfl ?_
          refine s_ldiv dX4_isBearable_167 (hth c_8) ?_
          refine s_ldc2 (v := 1000000) dX4_isBearable_168 csl_RX4_7 ?_
          refine s_lloadn dX4_isBearable_171 rfl rfl ?_
          refine s_lmul dX4_isBearable_172 ?_
          refine s_aloadn dX4_isBearable_173 rfl rfl ?_
          refine s_get (v := .long (c.tj 3)) (n := 64) dX4_isBearable_174 rfl hW2.mm (congrArg Value.long (congrFun hW2.tj 3)) ?_
          refine s_ldiv dX4_isBearable_177 hout ?_
          refine s_lcgt (tgt := 186) dX4_isBearable_178 dX4_isBearable_179 (by decide) (fun c_178 => ?_) (fun c_178 => ?_)
          · skip
            refine s_iconst (v := 0) dX4_isBearable_186 (by decide) ?_
            exact s_reti dX4_isBearable_187 rfl rfl (NI.of (F := f_X4_isBearable n c y) (x := 0) (by unfold f_X4_isBearable; rw [if_neg c_8, if_neg c_156, if_pos c_178]) hW2 hF2)
          · skip
            refine s_iconst (v := 1) dX4_isBearable_182 (by decide) ?_
            refine s_goto (tgt := 187) dX4_isBearable_183 (by decide) ?_
            exact s_reti dX4_isBearable_187 rfl rfl (NI.of (F := f_X4_isBearable n c y) (x := 1) (by unfold f_X4_isBearable; rw [if_neg c_8, if_neg c_156, if_neg c_178]) hW2 hF2)
      | succ d ih =>
        intro k hkd
        have hlt : k < (ix y) := by omega
        refine s_iload dX4_isBearable_44 rfl ?_
        refine s_iloadn dX4_isBearable_46 rfl rfl ?_
        refine s_icge (tgt := 154) dX4_isBearable_47 (by decide) (fun c => absurd c (ixm (isI c_8) hlt)) (fun _ => ?_)
        refine s_lload dX4_isBearable_50 rfl ?_
        refine s_lload dX4_isBearable_52 rfl ?_
        refine s_aloadn dX4_isBearable_54 rfl rfl ?_
        refine s_get (v := .int (c.ti 6)) (n := 67) dX4_isBearable_55 rfl hW2.mm (congrArg Value.int (congrFun hW2.ti 6)) ?_
        refine s_i2l dX4_isBearable_58 ?_
        refine s_lmul dX4_isBearable_59 ?_
        refine s_ldc2 (v := 10000) dX4_isBearable_60 csl_RX4_146 ?_
        refine s_ldiv dX4_isBearable_63 (by decide) ?_
        refine s_ladd dX4_isBearable_64 ?_
        refine s_lstore dX4_isBearable_65 (by decide) ?_
        refine s_lload dX4_isBearable_67 rfl ?_
        refine s_lload dX4_isBearable_69 rfl ?_
        refine s_aloadn dX4_isBearable_71 rfl rfl ?_
        refine s_get (v := .int (c.ti 5)) (n := 66) dX4_isBearable_72 rfl hW2.mm (congrArg Value.int (congrFun hW2.ti 5)) ?_
        refine s_i2l dX4_isBearable_75 ?_
        refine s_lmul dX4_isBearable_76 ?_
        refine s_ldc2 (v := 1000) dX4_isBearable_77 csl_RX4_158 ?_
        refine s_cs2R (n := 25) dX4_isBearable_80 rfl rfl (by decide) (by decide) (by decide) (by decide) (Nat.le_of_ble_eq_true rfl) (m_X4_down (by decide)) ?_
        refine s_lsub dX4_isBearable_83 ?_
        refine s_lstore dX4_isBearable_84 (by decide) ?_
        refine s_lload dX4_isBearable_86 rfl ?_
        refine s_lconst (v := 0) dX4_isBearable_88 (by decide) ?_
        refine s_lcge (tgt := 97) dX4_isBearable_89 dX4_isBearable_90 (by decide) (fun c_89 => ?_) (fun c_89 => ?_)
        · skip
          refine s_lload dX4_isBearable_97 rfl ?_
          refine s_lstore dX4_isBearable_99 (by decide) ?_
          refine s_lload dX4_isBearable_101 rfl ?_
          refine s_lload dX4_isBearable_103 rfl ?_
          refine s_aloadn dX4_isBearable_105 rfl rfl ?_
          refine s_get (v := .int (c.ti 4)) (n := 65) dX4_isBearable_106 rfl hW2.mm (congrArg Value.int (congrFun hW2.ti 4)) ?_
          refine s_i2l dX4_isBearable_109 ?_
          refine s_lmul dX4_isBearable_110 ?_
          refine s_ldc2 (v := 10000) dX4_isBearable_111 csl_RX4_146 ?_
          refine s_cs2R (n := 25) dX4_isBearable_114 rfl rfl (by decide) (by decide) (by decide) (by decide) (Nat.le_of_ble_eq_true rfl) (m_X4_down (by decide)) ?_
          refine s_ladd dX4_isBearable_117 ?_
          refine s_lstore dX4_isBearable_118 (by decide) ?_
          refine s_iload dX4_isBearable_120 rfl ?_
          refine s_ifeq (tgt := 145) dX4_isBearable_122 (by decide) (fun c_122 => ?_) (fun c_122 => ?_)
          · skip
            refine s_iconst (v := 0) dX4_isBearable_145 (by decide) ?_
            refine s_istore dX4_isBearable_146 (by decide) ?_
            refine s_iinc (v := (nI k) + 1) dX4_isBearable_148 rfl (by rfl) (by decide) ?_
            refine s_goto (tgt := 44) dX4_isBearable_151 (by decide) ?_
            exact s_sub (lo' := [(0, .ref w.mm), (1, .int y), (2, .long (f_X4_debt n (c.pti 0 0))), (4, .long ((g_X4_isBearable n c (k + 1)).1)), (6, .long ((g_X4_isBearable n c (k + 1)).2.1)), (8, .int ((g_X4_isBearable n c (k + 1)).2.2)), (9, .int (nI (k + 1)))]) (List.forall_mem_cons.mpr ⟨rfl, List.forall_mem_cons.mpr ⟨rfl, List.forall_mem_cons.mpr ⟨rfl, List.forall_mem_cons.mpr ⟨congrArg (fun z => some (Value.long z)) (Eq.symm (by rw [g_X4_isBearable_s, if_pos c_89, if_pos c_122])), List.forall_mem_cons.mpr ⟨congrArg (fun z => some (Value.long z)) (Eq.symm (by rw [g_X4_isBearable_s, if_pos c_89, if_pos c_122])), List.forall_mem_cons.mpr ⟨congrArg (fun z => some (Value.int z)) (Eq.symm (by rw [g_X4_isBearable_s, if_pos c_89, if_pos c_122])), List.forall_mem_cons.mpr ⟨congrArg (fun z => some (Value.int z)) (nI_1 k), fun _ h => absurd h List.not_mem_nil⟩⟩⟩⟩⟩⟩⟩) (Nat.zero_le _) (Nat.zero_le _) (ih (k + 1) (by omega))
          · skip
            refine s_ldc2 (v := 100) dX4_isBearable_125 csl_RX4_174 ?_
            refine s_lload dX4_isBearable_128 rfl ?_
            refine s_lmul dX4_isBearable_130 ?_
            refine s_ldc2 (v := 120) dX4_isBearable_131 csl_RX4_234 ?_
            refine s_lload dX4_isBearable_134 rfl ?_
            refine s_lmul dX4_isBearable_136 ?_
            refine s_lcgt (tgt := 145) dX4_isBearable_137 dX4_isBearable_138 (by decide) (fun c_137 => ?_) (fun c_137 => ?_)
            · skip
              refine s_iconst (v := 0) dX4_isBearable_145 (by decide) ?_
              refine s_istore dX4_isBearable_146 (by decide) ?_
              refine s_iinc (v := (nI k) + 1) dX4_isBearable_148 rfl (by rfl) (by decide) ?_
              refine s_goto (tgt := 44) dX4_isBearable_151 (by decide) ?_
              exact s_sub (lo' := [(0, .ref w.mm), (1, .int y), (2, .long (f_X4_debt n (c.pti 0 0))), (4, .long ((g_X4_isBearable n c (k + 1)).1)), (6, .long ((g_X4_isBearable n c (k + 1)).2.1)), (8, .int ((g_X4_isBearable n c (k + 1)).2.2)), (9, .int (nI (k + 1)))]) (List.forall_mem_cons.mpr ⟨rfl, List.forall_mem_cons.mpr ⟨rfl, List.forall_mem_cons.mpr ⟨rfl, List.forall_mem_cons.mpr ⟨congrArg (fun z => some (Value.long z)) (Eq.symm (by rw [g_X4_isBearable_s, if_pos c_89, if_neg c_122, if_pos c_137])), List.forall_mem_cons.mpr ⟨congrArg (fun z => some (Value.long z)) (Eq.symm (by rw [g_X4_isBearable_s, if_pos c_89, if_neg c_122, if_pos c_137])), List.forall_mem_cons.mpr ⟨congrArg (fun z => some (Value.int z)) (Eq.symm (by rw [g_X4_isBearable_s, if_pos c_89, if_neg c_122, if_pos c_137])), List.forall_mem_cons.mpr ⟨congrArg (fun z => some (Value.int z)) (nI_1 k), fun _ h => absurd h List.not_mem_nil⟩⟩⟩⟩⟩⟩⟩) (Nat.zero_le _) (Nat.zero_le _) (ih (k + 1) (by omega))
            · skip
              refine s_iconst (v := 1) dX4_isBearable_141 (by decide) ?_
              refine s_goto (tgt := 146) dX4_isBearable_142 (by decide) ?_
              refine s_istore dX4_isBearable_146 (by decide) ?_
              refine s_iinc (v := (nI k) + 1) dX4_isBearable_148 rfl (by rfl) (by decide) ?_
              refine s_goto (tgt := 44) dX4_isBearable_151 (by decide) ?_
              exact s_sub (lo' := [(0, .ref w.mm), (1, .int y), (2, .long (f_X4_debt n (c.pti 0 0))), (4, .long ((g_X4_isBearable n c (k + 1)).1)), (6, .long ((g_X4_isBearable n c (k + 1)).2.1)), (8, .int ((g_X4_isBearable n c (k + 1)).2.2)), (9, .int (nI (k + 1)))]) (List.forall_mem_cons.mpr ⟨rfl, List.forall_mem_cons.mpr ⟨rfl, List.forall_mem_cons.mpr ⟨rfl, List.forall_mem_cons.mpr ⟨congrArg (fun z => some (Value.long z)) (Eq.symm (by rw [g_X4_isBearable_s, if_pos c_89, if_neg c_122, if_neg c_137])), List.forall_mem_cons.mpr ⟨congrArg (fun z => some (Value.long z)) (Eq.symm (by rw [g_X4_isBearable_s, if_pos c_89, if_neg c_122, if_neg c_137])), List.forall_mem_cons.mpr ⟨congrArg (fun z => some (Value.int z)) (Eq.symm (by rw [g_X4_isBearable_s, if_pos c_89, if_neg c_122, if_neg c_137])), List.forall_mem_cons.mpr ⟨congrArg (fun z => some (Value.int z)) (nI_1 k), fun _ h => absurd h List.not_mem_nil⟩⟩⟩⟩⟩⟩⟩) (Nat.zero_le _) (Nat.zero_le _) (ih (k + 1) (by omega))
        · skip
          refine s_lconst (v := 0) dX4_isBearable_93 (by decide) ?_
          refine s_goto (tgt := 99) dX4_isBearable_94 (by decide) ?_
          refine s_lstore dX4_isBearable_99 (by decide) ?_
          refine s_lload dX4_isBearable_101 rfl ?_
          refine s_lload dX4_isBearable_103 rfl ?_
          refine s_aloadn dX4_isBearable_105 rfl rfl ?_
          refine s_get (v := .int (c.ti 4)) (n := 65) dX4_isBearable_106 rfl hW2.mm (congrArg Value.int (congrFun hW2.ti 4)) ?_
          refine s_i2l dX4_isBearable_109 ?_
          refine s_lmul dX4_isBearable_110 ?_
          refine s_ldc2 (v := 10000) dX4_isBearable_111 csl_RX4_146 ?_
          refine s_cs2R (n := 25) dX4_isBearable_114 rfl rfl (by decide) (by decide) (by decide) (by decide) (Nat.le_of_ble_eq_true rfl) (m_X4_down (by decide)) ?_
          refine s_ladd dX4_isBearable_117 ?_
          refine s_lstore dX4_isBearable_118 (by decide) ?_
          refine s_iload dX4_isBearable_120 rfl ?_
          refine s_ifeq (tgt := 145) dX4_isBearable_122 (by decide) (fun c_122 => ?_) (fun c_122 => ?_)
          · skip
            refine s_iconst (v := 0) dX4_isBearable_145 (by decide) ?_
            refine s_istore dX4_isBearable_146 (by decide) ?_
            refine s_iinc (v := (nI k) + 1) dX4_isBearable_148 rfl (by rfl) (by decide) ?_
            refine s_goto (tgt := 44) dX4_isBearable_151 (by decide) ?_
            exact s_sub (lo' := [(0, .ref w.mm), (1, .int y), (2, .long (f_X4_debt n (c.pti 0 0))), (4, .long ((g_X4_isBearable n c (k + 1)).1)), (6, .long ((g_X4_isBearable n c (k + 1)).2.1)), (8, .int ((g_X4_isBearable n c (k + 1)).2.2)), (9, .int (nI (k + 1)))]) (List.forall_mem_cons.mpr ⟨rfl, List.forall_mem_cons.mpr ⟨rfl, List.forall_mem_cons.mpr ⟨rfl, List.forall_mem_cons.mpr ⟨congrArg (fun z => some (Value.long z)) (Eq.symm (by rw [g_X4_isBearable_s, if_neg c_89, if_pos c_122])), List.forall_mem_cons.mpr ⟨congrArg (fun z => some (Value.long z)) (Eq.symm (by rw [g_X4_isBearable_s, if_neg c_89, if_pos c_122])), List.forall_mem_cons.mpr ⟨congrArg (fun z => some (Value.int z)) (Eq.symm (by rw [g_X4_isBearable_s, if_neg c_89, if_pos c_122])), List.forall_mem_cons.mpr ⟨congrArg (fun z => some (Value.int z)) (nI_1 k), fun _ h => absurd h List.not_mem_nil⟩⟩⟩⟩⟩⟩⟩) (Nat.zero_le _) (Nat.zero_le _) (ih (k + 1) (by omega))
          · skip
            refine s_ldc2 (v := 100) dX4_isBearable_125 csl_RX4_174 ?_
            refine s_lload dX4_isBearable_128 rfl ?_
            refine s_lmul dX4_isBearable_130 ?_
            refine s_ldc2 (v := 120) dX4_isBearable_131 csl_RX4_234 ?_
            refine s_lload dX4_isBearable_134 rfl ?_
            refine s_lmul dX4_isBearable_136 ?_
            refine s_lcgt (tgt := 145) dX4_isBearable_137 dX4_isBearable_138 (by decide) (fun c_137 => ?_) (fun c_137 => ?_)
            · skip
              refine s_iconst (v := 0) dX4_isBearable_145 (by decide) ?_
              refine s_istore dX4_isBearable_146 (by decide) ?_
              refine s_iinc (v := (nI k) + 1) dX4_isBearable_148 rfl (by rfl) (by decide) ?_
              refine s_goto (tgt := 44) dX4_isBearable_151 (by decide) ?_
              exact s_sub (lo' := [(0, .ref w.mm), (1, .int y), (2, .long (f_X4_debt n (c.pti 0 0))), (4, .long ((g_X4_isBearable n c (k + 1)).1)), (6, .long ((g_X4_isBearable n c (k + 1)).2.1)), (8, .int ((g_X4_isBearable n c (k + 1)).2.2)), (9, .int (nI (k + 1)))]) (List.forall_mem_cons.mpr ⟨rfl, List.forall_mem_cons.mpr ⟨rfl, List.forall_mem_cons.mpr ⟨rfl, List.forall_mem_cons.mpr ⟨congrArg (fun z => some (Value.long z)) (Eq.symm (by rw [g_X4_isBearable_s, if_neg c_89, if_neg c_122, if_pos c_137])), List.forall_mem_cons.mpr ⟨congrArg (fun z => some (Value.long z)) (Eq.symm (by rw [g_X4_isBearable_s, if_neg c_89, if_neg c_122, if_pos c_137])), List.forall_mem_cons.mpr ⟨congrArg (fun z => some (Value.int z)) (Eq.symm (by rw [g_X4_isBearable_s, if_neg c_89, if_neg c_122, if_pos c_137])), List.forall_mem_cons.mpr ⟨congrArg (fun z => some (Value.int z)) (nI_1 k), fun _ h => absurd h List.not_mem_nil⟩⟩⟩⟩⟩⟩⟩) (Nat.zero_le _) (Nat.zero_le _) (ih (k + 1) (by omega))
            · skip
              refine s_iconst (v := 1) dX4_isBearable_141 (by decide) ?_
              refine s_goto (tgt := 146) dX4_isBearable_142 (by decide) ?_
              refine s_istore dX4_isBearable_146 (by decide) ?_
              refine s_iinc (v := (nI k) + 1) dX4_isBearable_148 rfl (by rfl) (by decide) ?_
              refine s_goto (tgt := 44) dX4_isBearable_151 (by decide) ?_
              exact s_sub (lo' := [(0, .ref w.mm), (1, .int y), (2, .long (f_X4_debt n (c.pti 0 0))), (4, .long ((g_X4_isBearable n c (k + 1)).1)), (6, .long ((g_X4_isBearable n c (k + 1)).2.1)), (8, .int ((g_X4_isBearable n c (k + 1)).2.2)), (9, .int (nI (k + 1)))]) (List.forall_mem_cons.mpr ⟨rfl, List.forall_mem_cons.mpr ⟨rfl, List.forall_mem_cons.mpr ⟨rfl, List.forall_mem_cons.mpr ⟨congrArg (fun z => some (Value.long z)) (Eq.symm (by rw [g_X4_isBearable_s, if_neg c_89, if_neg c_122, if_neg c_137])), List.forall_mem_cons.mpr ⟨congrArg (fun z => some (Value.long z)) (Eq.symm (by rw [g_X4_isBearable_s, if_neg c_89, if_neg c_122, if_neg c_137])), List.forall_mem_cons.mpr ⟨congrArg (fun z => some (Value.int z)) (Eq.symm (by rw [g_X4_isBearable_s, if_neg c_89, if_neg c_122, if_neg c_137])), List.forall_mem_cons.mpr ⟨congrArg (fun z => some (Value.int z)) (nI_1 k), fun _ h => absurd h List.not_mem_nil⟩⟩⟩⟩⟩⟩⟩) (Nat.zero_le _) (Nat.zero_le _) (ih (k + 1) (by omega))
    exact s_sub (lo' := [(0, .ref w.mm), (1, .int y), (2, .long (f_X4_debt n (c.pti 0 0))), (4, .long ((g_X4_isBearable n c 0).1)), (6, .long ((g_X4_isBearable n c 0).2.1)), (8, .int ((g_X4_isBearable n c 0).2.2)), (9, .int (nI 0))]) (List.forall_mem_cons.mpr ⟨rfl, List.forall_mem_cons.mpr ⟨rfl, List.forall_mem_cons.mpr ⟨rfl, List.forall_mem_cons.mpr ⟨rfl, List.forall_mem_cons.mpr ⟨rfl, List.forall_mem_cons.mpr ⟨rfl, List.forall_mem_cons.mpr ⟨rfl, fun _ h => absurd h List.not_mem_nil⟩⟩⟩⟩⟩⟩⟩) (Nat.zero_le _) (Nat.zero_le _) (LP_44 (ix y) 0 (by omega))
def f_X4_thrown (c : MC) : Int32 := (c.ti 0)
set_option maxHeartbeats 4000000 in
theorem m_X4_thrown {tm : Nat × Nat} {S : Sto} {w : MAd} {c : MC}  (hW : MW S w c)  : Ev tm M_X4_thrown [.ref w.mm] S (Rt (some (.int (f_X4_thrown c))) S) := by
  have hF : FrM S S := FrM.rf
  refine ev_in ok_X4_thrown (Nat.le_of_ble_eq_true rfl) ?_
  refine s_aloadn dX4_thrown_0 rfl rfl ?_
  refine s_get (v := .int (c.ti 0)) (n := 61) dX4_thrown_1 rfl hW.mm (congrArg Value.int (congrFun hW.ti 0)) ?_
  exact s_reti dX4_thrown_4 rfl rfl ⟨congrArg (fun z => Sum.inl (some (Value.int z))) (Eq.symm (by unfold f_X4_thrown; rfl)), rfl⟩