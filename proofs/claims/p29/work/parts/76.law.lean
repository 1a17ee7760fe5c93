/-! THE LAW, 18: a step; its loop -/
set_option maxHeartbeats 8000000 in
theorem m_L_step {tm : Nat × Nat} {S : Sto} {th da wa t : Nat} {w : CAd} {c : CC} {x a b : Int32} (L : LW tm th da wa t S w c) (ht : t < 600) (hx : 0 ≤ x.toInt) (ha : 0 ≤ a.toInt) (hb : 0 ≤ b.toInt) : Ev tm M_L_step [.ref th, .ref da, .ref wa, .int x, .int a, .int b] S (GL tm th da wa (t + 1) S) := by
  obtain ⟨⟨hC, hm, rfl⟩, hD, hW, hI⟩ := L
  have hn := hI.b.1.1
  have hno := hI.b.1.2.1
  refine ev_in ok_L_step (Nat.le_of_ble_eq_true rfl) ?_
  by_cases h0 : w.n = 0
  · skip
    by_cases h1 : w.no = 0
    · skip
      refine s_aloadn dL_step_0 rfl rfl ?_
      refine s_iconst (v := 0) dL_step_1 (by decide) ?_
      refine s_ialdv (j := 0) dL_step_2 hD.1 hD.2.2.1 rfl (by rw [hD.2.1]; decide) (by rw [hD.2.1]; decide) ?_
      refine s_ifne (tgt := 10) dL_step_3 (by decide) (fun c => absurd (by rw [h0]; rfl) c) (fun c_3 => ?_)
      refine s_iconst (v := 0) dL_step_6 (by decide) ?_
      refine s_goto (tgt := 16) dL_step_7 (by decide) ?_
      refine s_istore dL_step_16 (by decide) ?_
      refine s_aloadn dL_step_18 rfl rfl ?_
      refine s_iconst (v := 1) dL_step_19 (by decide) ?_
      refine s_ialdv (j := 1) dL_step_20 hD.1 hD.2.2.2.1 rfl (by rw [hD.2.1]; decide) (by rw [hD.2.1]; decide) ?_
      refine s_ifne (tgt := 28) dL_step_21 (by decide) (fun c => absurd (by rw [h1]; rfl) c) (fun c_21 => ?_)
      refine s_iconst (v := 0) dL_step_24 (by decide) ?_
      refine s_goto (tgt := 34) dL_step_25 (by decide) ?_
      refine s_istore dL_step_34 (by decide) ?_
      refine s_aloadn dL_step_36 rfl rfl ?_
      refine s_iconst (v := 0) dL_step_37 (by decide) ?_
      refine s_ialdv (j := 0) dL_step_38 hD.1 hD.2.2.1 rfl (by rw [hD.2.1]; decide) (by rw [hD.2.1]; decide) ?_
      refine s_ifne (tgt := 46) dL_step_39 (by decide) (fun c => absurd (by rw [h0]; rfl) c) (fun c_39 => ?_)
      refine s_iconst (v := 0) dL_step_42 (by decide) ?_
      refine s_goto (tgt := 61) dL_step_43 (by decide) ?_
      exact s_swin (off := 91) (tgt := 152) dL_step_61 (by decide) (by decide) rfl (by decide) (s_sub (lo' := [(0, .ref w.th), (1, .ref da), (2, .ref wa), (3, .int x), (4, .int a), (5, .int b), (6, .int 0), (7, .int 0)]) (List.forall_mem_cons.mpr ⟨rfl, List.forall_mem_cons.mpr ⟨rfl, List.forall_mem_cons.mpr ⟨rfl, List.forall_mem_cons.mpr ⟨rfl, List.forall_mem_cons.mpr ⟨rfl, List.forall_mem_cons.mpr ⟨rfl, List.forall_mem_cons.mpr ⟨rfl, List.forall_mem_cons.mpr ⟨rfl, fun _ h => absurd h List.not_mem_nil⟩⟩⟩⟩⟩⟩⟩⟩) (Nat.le_refl _) (Nat.le_refl _) (c_step_152 ⟨⟨hC, hm, rfl⟩, hD, hW, hI⟩ ht ha hb ))
    · skip
      have hof : inr (b - b / nI w.no * nI w.no) w.no := by
        obtain ⟨y1, y2⟩ := rem_rng hb (re_nI (show w.no < 2147483648 by omega)) (by omega)
        exact inr_of (by omega) y1 y2
      refine s_aloadn dL_step_0 rfl rfl ?_
      refine s_iconst (v := 0) dL_step_1 (by decide) ?_
      refine s_ialdv (j := 0) dL_step_2 hD.1 hD.2.2.1 rfl (by rw [hD.2.1]; decide) (by rw [hD.2.1]; decide) ?_
      refine s_ifne (tgt := 10) dL_step_3 (by decide) (fun c => absurd (by rw [h0]; rfl) c) (fun c_3 => ?_)
      refine s_iconst (v := 0) dL_step_6 (by decide) ?_
      refine s_goto (tgt := 16) dL_step_7 (by decide) ?_
      refine s_istore dL_step_16 (by decide) ?_
      refine s_aloadn dL_step_18 rfl rfl ?_
      refine s_iconst (v := 1) dL_step_19 (by decide) ?_
      refine s_ialdv (j := 1) dL_step_20 hD.1 hD.2.2.2.1 rfl (by rw [hD.2.1]; decide) (by rw [hD.2.1]; decide) ?_
      refine s_ifne (tgt := 28) dL_step_21 (by decide) (fun c_21 => ?_) (fun c => absurd c (nI_nz (by omega) h1))
      refine s_iload dL_step_28 rfl ?_
      refine s_aloadn dL_step_30 rfl rfl ?_
      refine s_iconst (v := 1) dL_step_31 (by decide) ?_
      refine s_ialdv (j := 1) dL_step_32 hD.1 hD.2.2.2.1 rfl (by rw [hD.2.1]; decide) (by rw [hD.2.1]; decide) ?_
      refine s_irem dL_step_33 (nI_nz (by omega) h1) ?_
      refine s_istore dL_step_34 (by decide) ?_
      refine s_aloadn dL_step_36 rfl rfl ?_
      refine s_iconst (v := 0) dL_step_37 (by decide) ?_
      refine s_ialdv (j := 0) dL_step_38 hD.1 hD.2.2.1 rfl (by rw [hD.2.1]; decide) (by rw [hD.2.1]; decide) ?_
      refine s_ifne (tgt := 46) dL_step_39 (by decide) (fun c => absurd (by rw [h0]; rfl) c) (fun c_39 => ?_)
      refine s_iconst (v := 0) dL_step_42 (by decide) ?_
      refine s_goto (tgt := 61) dL_step_43 (by decide) ?_
      exact s_swin (off := 91) (tgt := 152) dL_step_61 (by decide) (by decide) rfl (by decide) (s_sub (lo' := [(0, .ref w.th), (1, .ref da), (2, .ref wa), (3, .int x), (4, .int a), (5, .int b), (6, .int 0), (7, .int (b - b / (nI w.no) * (nI w.no)))]) (List.forall_mem_cons.mpr ⟨rfl, List.forall_mem_cons.mpr ⟨rfl, List.forall_mem_cons.mpr ⟨rfl, List.forall_mem_cons.mpr ⟨rfl, List.forall_mem_cons.mpr ⟨rfl, List.forall_mem_cons.mpr ⟨rfl, List.forall_mem_cons.mpr ⟨rfl, List.forall_mem_cons.mpr ⟨rfl, fun _ h => absurd h List.not_mem_nil⟩⟩⟩⟩⟩⟩⟩⟩) (Nat.le_refl _) (Nat.le_refl _) (c_step_152 ⟨⟨hC, hm, rfl⟩, hD, hW, hI⟩ ht ha hb ))
  · skip
    by_cases h1 : w.no = 0
    · skip
      have hcl : inr (a - a / nI w.n * nI w.n) w.n := by
        obtain ⟨y1, y2⟩ := rem_rng ha (re_nI (show w.n < 2147483648 by omega)) (by omega)
        exact inr_of (by omega) y1 y2
      refine s_aloadn dL_step_0 rfl rfl ?_
      refine s_iconst (v := 0) dL_step_1 (by decide) ?_
      refine s_ialdv (j := 0) dL_step_2 hD.1 hD.2.2.1 rfl (by rw [hD.2.1]; decide) (by rw [hD.2.1]; decide) ?_
      refine s_ifne (tgt := 10) dL_step_3 (by decide) (fun c_3 => ?_) (fun c => absurd c (nI_nz (by omega) h0))
      refine s_iload dL_step_10 rfl ?_
      refine s_aloadn dL_step_12 rfl rfl ?_
      refine s_iconst (v := 0) dL_step_13 (by decide) ?_
      refine s_ialdv (j := 0) dL_step_14 hD.1 hD.2.2.1 rfl (by rw [hD.2.1]; decide) (by rw [hD.2.1]; decide) ?_
      refine s_irem dL_step_15 (nI_nz (by omega) h0) ?_
      refine s_istore dL_step_16 (by decide) ?_
      refine s_aloadn dL_step_18 rfl rfl ?_
      refine s_iconst (v := 1) dL_step_19 (by decide) ?_
      refine s_ialdv (j := 1) dL_step_20 hD.1 hD.2.2.2.1 rfl (by rw [hD.2.1]; decide) (by rw [hD.2.1]; decide) ?_
      refine s_ifne (tgt := 28) dL_step_21 (by decide) (fun c => absurd (by rw [h1]; rfl) c) (fun c_21 => ?_)
      refine s_iconst (v := 0) dL_step_24 (by decide) ?_
      refine s_goto (tgt := 34) dL_step_25 (by decide) ?_
      refine s_istore dL_step_34 (by decide) ?_
      refine s_aloadn dL_step_36 rfl rfl ?_
      refine s_iconst (v := 0) dL_step_37 (by decide) ?_
      refine s_ialdv (j := 0) dL_step_38 hD.1 hD.2.2.1 rfl (by rw [hD.2.1]; decide) (by rw [hD.2.1]; decide) ?_
      refine s_ifne (tgt := 46) dL_step_39 (by decide) (fun c_39 => ?_) (fun c => absurd c (nI_nz (by omega) h0))
      refine s_aloadn dL_step_46 rfl rfl ?_
      refine s_iconst (v := 1) dL_step_47 (by decide) ?_
      refine s_ialdv (j := 1) dL_step_48 hD.1 hD.2.2.2.1 rfl (by rw [hD.2.1]; decide) (by rw [hD.2.1]; decide) ?_
      refine s_ifne (tgt := 57) dL_step_49 (by decide) (fun c => absurd (by rw [h1]; rfl) c) (fun c_49 => ?_)
      refine s_bipush (v := 8) dL_step_52 (by decide) ?_
      refine s_goto (tgt := 61) dL_step_54 (by decide) ?_
      exact s_swin (off := 566) (tgt := 627) dL_step_61 (by decide) (by decide) rfl (by decide) (s_sub (lo' := [(0, .ref w.th), (1, .ref da), (2, .ref wa), (3, .int x), (4, .int a), (5, .int b), (6, .int (a - a / (nI w.n) * (nI w.n))), (7, .int 0)]) (List.forall_mem_cons.mpr ⟨rfl, List.forall_mem_cons.mpr ⟨rfl, List.forall_mem_cons.mpr ⟨rfl, List.forall_mem_cons.mpr ⟨rfl, List.forall_mem_cons.mpr ⟨rfl, List.forall_mem_cons.mpr ⟨rfl, List.forall_mem_cons.mpr ⟨rfl, List.forall_mem_cons.mpr ⟨rfl, fun _ h => absurd h List.not_mem_nil⟩⟩⟩⟩⟩⟩⟩⟩) (Nat.le_refl _) (Nat.le_refl _) (c_step_627 ⟨⟨hC, hm, rfl⟩, hD, hW, hI⟩ ht ha hb ))
    · skip
      have hcl : inr (a - a / nI w.n * nI w.n) w.n := by
        obtain ⟨y1, y2⟩ := rem_rng ha (re_nI (show w.n < 2147483648 by omega)) (by omega)
        exact inr_of (by omega) y1 y2
      have hof : inr (b - b / nI w.no * nI w.no) w.no := by
        obtain ⟨y1, y2⟩ := rem_rng hb (re_nI (show w.no < 2147483648 by omega)) (by omega)
        exact inr_of (by omega) y1 y2
      refine s_aloadn dL_step_0 rfl rfl ?_
      refine s_iconst (v := 0) dL_step_1 (by decide) ?_
      refine s_ialdv (j := 0) dL_step_2 hD.1 hD.2.2.1 rfl (by rw [hD.2.1]; decide) (by rw [hD.2.1]; decide) ?_
      refine s_ifne (tgt := 10) dL_step_3 (by decide) (fun c_3 => ?_) (fun c => absurd c (nI_nz (by omega) h0))
      refine s_iload dL_step_10 rfl ?_
      refine s_aloadn dL_step_12 rfl rfl ?_
      refine s_iconst (v := 0) dL_step_13 (by decide) ?_
      refine s_ialdv (j := 0) dL_step_14 hD.1 hD.2.2.1 rfl (by rw [hD.2.1]; decide) (by rw [hD.2.1]; decide) ?_
      refine s_irem dL_step_15 (nI_nz (by omega) h0) ?_
      refine s_istore dL_step_16 (by decide) ?_
      refine s_aloadn dL_step_18 rfl rfl ?_
      refine s_iconst (v := 1) dL_step_19 (by decide) ?_
      refine s_ialdv (j := 1) dL_step_20 hD.1 hD.2.2.2.1 rfl (by rw [hD.2.1]; decide) (by rw [hD.2.1]; decide) ?_
      refine s_ifne (tgt := 28) dL_step_21 (by decide) (fun c_21 => ?_) (fun c => absurd c (nI_nz (by omega) h1))
      refine s_iload dL_step_28 rfl ?_
      refine s_aloadn dL_step_30 rfl rfl ?_
      refine s_iconst (v := 1) dL_step_31 (by decide) ?_
      refine s_ialdv (j := 1) dL_step_32 hD.1 hD.2.2.2.1 rfl (by rw [hD.2.1]; decide) (by rw [hD.2.1]; decide) ?_
      refine s_irem dL_step_33 (nI_nz (by omega) h1) ?_
      refine s_istore dL_step_34 (by decide) ?_
      refine s_aloadn dL_step_36 rfl rfl ?_
      refine s_iconst (v := 0) dL_step_37 (by decide) ?_
      refine s_ialdv (j := 0) dL_step_38 hD.1 hD.2.2.1 rfl (by rw [hD.2.1]; decide) (by rw [hD.2.1]; decide) ?_
      refine s_ifne (tgt := 46) dL_step_39 (by decide) (fun c_39 => ?_) (fun c => absurd c (nI_nz (by omega) h0))
      refine s_aloadn dL_step_46 rfl rfl ?_
      refine s_iconst (v := 1) dL_step_47 (by decide) ?_
      refine s_ialdv (j := 1) dL_step_48 hD.1 hD.2.2.2.1 rfl (by rw [hD.2.1]; decide) (by rw [hD.2.1]; decide) ?_
      refine s_ifne (tgt := 57) dL_step_49 (by decide) (fun c_49 => ?_) (fun c => absurd c (nI_nz (by omega) h1))
      refine s_iloadn dL_step_57 rfl rfl ?_
      refine s_bipush (v := 20) dL_step_58 (by decide) ?_
      refine s_irem dL_step_60 (by decide) ?_
      obtain ⟨y1, y2⟩ := rem_rng hx (b := 20) (B := 20) rfl (by decide)
      generalize x - x / 20 * 20 = y at *
      have hy : y.toInt = 0 ∨ y.toInt = 1 ∨ y.toInt = 2 ∨ y.toInt = 3 ∨ y.toInt = 4 ∨ y.toInt = 5 ∨ y.toInt = 6 ∨ y.toInt = 7 ∨ y.toInt = 8 ∨ y.toInt = 9 ∨ y.toInt = 10 ∨ y.toInt = 11 ∨ y.toInt = 12 ∨ y.toInt = 13 ∨ y.toInt = 14 ∨ y.toInt = 15 ∨ y.toInt = 16 ∨ y.toInt = 17 ∨ y.toInt = 18 ∨ y.toInt = 19 := by omega
      rcases hy with hy | hy | hy | hy | hy | hy | hy | hy | hy | hy | hy | hy | hy | hy | hy | hy | hy | hy | hy | hy
      · exact s_swin (off := 91) (tgt := 152) dL_step_61 (by rw [hy]; decide) (by rw [hy]; decide) (by rw [hy]; rfl) (by decide) (s_sub (lo' := [(0, .ref w.th), (1, .ref da), (2, .ref wa), (3, .int x), (4, .int a), (5, .int b), (6, .int (a - a / (nI w.n) * (nI w.n))), (7, .int (b - b / (nI w.no) * (nI w.no)))]) (List.forall_mem_cons.mpr ⟨rfl, List.forall_mem_cons.mpr ⟨rfl, List.forall_mem_cons.mpr ⟨rfl, List.forall_mem_cons.mpr ⟨rfl, List.forall_mem_cons.mpr ⟨rfl, List.forall_mem_cons.mpr ⟨rfl, List.forall_mem_cons.mpr ⟨rfl, List.forall_mem_cons.mpr ⟨rfl, fun _ h => absurd h List.not_mem_nil⟩⟩⟩⟩⟩⟩⟩⟩) (Nat.le_refl _) (Nat.le_refl _) (c_step_152 ⟨⟨hC, hm, rfl⟩, hD, hW, hI⟩ ht ha hb ))
      · exact s_swin (off := 91) (tgt := 152) dL_step_61 (by rw [hy]; decide) (by rw [hy]; decide) (by rw [hy]; rfl) (by decide) (s_sub (lo' := [(0, .ref w.th), (1, .ref da), (2, .ref wa), (3, .int x), (4, .int a), (5, .int b), (6, .int (a - a / (nI w.n) * (nI w.n))), (7, .int (b - b / (nI w.no) * (nI w.no)))]) (List.forall_mem_cons.mpr ⟨rfl, List.forall_mem_cons.mpr ⟨rfl, List.forall_mem_cons.mpr ⟨rfl, List.forall_mem_cons.mpr ⟨rfl, List.forall_mem_cons.mpr ⟨rfl, List.forall_mem_cons.mpr ⟨rfl, List.forall_mem_cons.mpr ⟨rfl, List.forall_mem_cons.mpr ⟨rfl, fun _ h => absurd h List.not_mem_nil⟩⟩⟩⟩⟩⟩⟩⟩) (Nat.le_refl _) (Nat.le_refl _) (c_step_152 ⟨⟨hC, hm, rfl⟩, hD, hW, hI⟩ ht ha hb ))
      · exact s_swin (off := 260) (tgt := 321) dL_step_61 (by rw [hy]; decide) (by rw [hy]; decide) (by rw [hy]; rfl) (by decide) (s_sub (lo' := [(0, .ref w.th), (1, .ref da), (2, .ref wa), (3, .int x), (4, .int a), (5, .int b), (6, .int (a - a / (nI w.n) * (nI w.n))), (7, .int (b - b / (nI w.no) * (nI w.no)))]) (List.forall_mem_cons.mpr ⟨rfl, List.forall_mem_cons.mpr ⟨rfl, List.forall_mem_cons.mpr ⟨rfl, List.forall_mem_cons.mpr ⟨rfl, List.forall_mem_cons.mpr ⟨rfl, List.forall_mem_cons.mpr ⟨rfl, List.forall_mem_cons.mpr ⟨rfl, List.forall_mem_cons.mpr ⟨rfl, fun _ h => absurd h List.not_mem_nil⟩⟩⟩⟩⟩⟩⟩⟩) (Nat.le_refl _) (Nat.le_refl _) (c_step_321 ⟨⟨hC, hm, rfl⟩, hD, hW, hI⟩ ht ha hb hcl))
      · exact s_swin (off := 377) (tgt := 438) dL_step_61 (by rw [hy]; decide) (by rw [hy]; decide) (by rw [hy]; rfl) (by decide) (s_sub (lo' := [(0, .ref w.th), (1, .ref da), (2, .ref wa), (3, .int x), (4, .int a), (5, .int b), (6, .int (a - a / (nI w.n) * (nI w.n))), (7, .int (b - b / (nI w.no) * (nI w.no)))]) (List.forall_mem_cons.mpr ⟨rfl, List.forall_mem_cons.mpr ⟨rfl, List.forall_mem_cons.mpr ⟨rfl, List.forall_mem_cons.mpr ⟨rfl, List.forall_mem_cons.mpr ⟨rfl, List.forall_mem_cons.mpr ⟨rfl, List.forall_mem_cons.mpr ⟨rfl, List.forall_mem_cons.mpr ⟨rfl, fun _ h => absurd h List.not_mem_nil⟩⟩⟩⟩⟩⟩⟩⟩) (Nat.le_refl _) (Nat.le_refl _) (c_step_438 ⟨⟨hC, hm, rfl⟩, hD, hW, hI⟩ ht ha hb hcl))
      · exact s_swin (off := 424) (tgt := 485) dL_step_61 (by rw [hy]; decide) (by rw [hy]; decide) (by rw [hy]; rfl) (by decide) (s_sub (lo' := [(0, .ref w.th), (1, .ref da), (2, .ref wa), (3, .int x), (4, .int a), (5, .int b), (6, .int (a - a / (nI w.n) * (nI w.n))), (7, .int (b - b / (nI w.no) * (nI w.no)))]) (List.forall_mem_cons.mpr ⟨rfl, List.forall_mem_cons.mpr ⟨rfl, List.forall_mem_cons.mpr ⟨rfl, List.forall_mem_cons.mpr ⟨rfl, List.forall_mem_cons.mpr ⟨rfl, List.forall_mem_cons.mpr ⟨rfl, List.forall_mem_cons.mpr ⟨rfl, List.forall_mem_cons.mpr ⟨rfl, fun _ h => absurd h List.not_mem_nil⟩⟩⟩⟩⟩⟩⟩⟩) (Nat.le_refl _) (Nat.le_refl _) (c_step_485 ⟨⟨hC, hm, rfl⟩, hD, hW, hI⟩ ht ha hb ))
      · exact s_swin (off := 497) (tgt := 558) dL_step_61 (by rw [hy]; decide) (by rw [hy]; decide) (by rw [hy]; rfl) (by decide) (s_sub (lo' := [(0, .ref w.th), (1, .ref da), (2, .ref wa), (3, .int x), (4, .int a), (5, .int b), (6, .int (a - a / (nI w.n) * (nI w.n))), (7, .int (b - b / (nI w.no) * (nI w.no)))]) (List.forall_mem_cons.mpr ⟨rfl, List.forall_mem_cons.mpr ⟨rfl, List.forall_mem_cons.mpr ⟨rfl, List.forall_mem_cons.mpr ⟨rfl, List.forall_mem_cons.mpr ⟨rfl, List.forall_mem_cons.mpr ⟨rfl, List.forall_mem_cons.mpr ⟨rfl, List.forall_mem_cons.mpr ⟨rfl, fun _ h => absurd h List.not_mem_nil⟩⟩⟩⟩⟩⟩⟩⟩) (Nat.le_refl _) (Nat.le_refl _) (c_step_558 ⟨⟨hC, hm, rfl⟩, hD, hW, hI⟩ ht ha hb ))
      · exact s_swin (off := 566) (tgt := 627) dL_step_61 (by rw [hy]; decide) (by rw [hy]; decide) (by rw [hy]; rfl) (by decide) (s_sub (lo' := [(0, .ref w.th), (1, .ref da), (2, .ref wa), (3, .int x), (4, .int a), (5, .int b), (6, .int (a - a / (nI w.n) * (nI w.n))), (7, .int (b - b / (nI w.no) * (nI w.no)))]) (List.forall_mem_cons.mpr ⟨rfl, List.forall_mem_cons.mpr ⟨rfl, List.forall_mem_cons.mpr ⟨rfl, List.forall_mem_cons.mpr ⟨rfl, List.forall_mem_cons.mpr ⟨rfl, List.forall_mem_cons.mpr ⟨rfl, List.forall_mem_cons.mpr ⟨rfl, List.forall_mem_cons.mpr ⟨rfl, fun _ h => absurd h List.not_mem_nil⟩⟩⟩⟩⟩⟩⟩⟩) (Nat.le_refl _) (Nat.le_refl _) (c_step_627 ⟨⟨hC, hm, rfl⟩, hD, hW, hI⟩ ht ha hb ))
      · exact s_swin (off := 566) (tgt := 627) dL_step_61 (by rw [hy]; decide) (by rw [hy]; decide) (by rw [hy]; rfl) (by decide) (s_sub (lo' := [(0, .ref w.th), (1, .ref da), (2, .ref wa), (3, .int x), (4, .int a), (5, .int b), (6, .int (a - a / (nI w.n) * (nI w.n))), (7, .int (b - b / (nI w.no) * (nI w.no)))]) (List.forall_mem_cons.mpr ⟨rfl, List.forall_mem_cons.mpr ⟨rfl, List.forall_mem_cons.mpr ⟨rfl, List.forall_mem_cons.mpr ⟨rfl, List.forall_mem_cons.mpr ⟨rfl, List.forall_mem_cons.mpr ⟨rfl, List.forall_mem_cons.mpr ⟨rfl, List.forall_mem_cons.mpr ⟨rfl, fun _ h => absurd h List.not_mem_nil⟩⟩⟩⟩⟩⟩⟩⟩) (Nat.le_refl _) (Nat.le_refl _) (c_step_627 ⟨⟨hC, hm, rfl⟩, hD, hW, hI⟩ ht ha hb ))
      · exact s_swin (off := 566) (tgt := 627) dL_step_61 (by rw [hy]; decide) (by rw [hy]; decide) (by rw [hy]; rfl) (by decide) (s_sub (lo' := [(0, .ref w.th), (1, .ref da), (2, .ref wa), (3, .int x), (4, .int a), (5, .int b), (6, .int (a - a / (nI w.n) * (nI w.n))), (7, .int (b - b / (nI w.no) * (nI w.no)))]) (List.forall_mem_cons.mpr ⟨rfl, List.forall_mem_cons.mpr ⟨rfl, List.forall_mem_cons.mpr ⟨rfl, List.forall_mem_cons.mpr ⟨rfl, List.forall_mem_cons.mpr ⟨rfl, List.forall_mem_cons.mpr ⟨rfl, List.forall_mem_cons.mpr ⟨rfl, List.forall_mem_cons.mpr ⟨rfl, fun _ h => absurd h List.not_mem_nil⟩⟩⟩⟩⟩⟩⟩⟩) (Nat.le_refl _) (Nat.le_refl _) (c_step_627 ⟨⟨hC, hm, rfl⟩, hD, hW, hI⟩ ht ha hb ))
      · exact s_swin (off := 566) (tgt := 627) dL_step_61 (by rw [hy]; decide) (by rw [hy]; decide) (by rw [hy]; rfl) (by decide) (s_sub (lo' := [(0, .ref w.th), (1, .ref da), (2, .ref wa), (3, .int x), (4, .int a), (5, .int b), (6, .int (a - a / (nI w.n) * (nI w.n))), (7, .int (b - b / (nI w.no) * (nI w.no)))]) (List.forall_mem_cons.mpr ⟨rfl, List.forall_mem_cons.mpr ⟨rfl, List.forall_mem_cons.mpr ⟨rfl, List.forall_mem_cons.mpr ⟨rfl, List.forall_mem_cons.mpr ⟨rfl, List.forall_mem_cons.mpr ⟨rfl, List.forall_mem_cons.mpr ⟨rfl, List.forall_mem_cons.mpr ⟨rfl, fun _ h => absurd h List.not_mem_nil⟩⟩⟩⟩⟩⟩⟩⟩) (Nat.le_refl _) (Nat.le_refl _) (c_step_627 ⟨⟨hC, hm, rfl⟩, hD, hW, hI⟩ ht ha hb ))
      · exact s_swin (off := 591) (tgt := 652) dL_step_61 (by rw [hy]; decide) (by rw [hy]; decide) (by rw [hy]; rfl) (by decide) (s_sub (lo' := [(0, .ref w.th), (1, .ref da), (2, .ref wa), (3, .int x), (4, .int a), (5, .int b), (6, .int (a - a / (nI w.n) * (nI w.n))), (7, .int (b - b / (nI w.no) * (nI w.no)))]) (List.forall_mem_cons.mpr ⟨rfl, List.forall_mem_cons.mpr ⟨rfl, List.forall_mem_cons.mpr ⟨rfl, List.forall_mem_cons.mpr ⟨rfl, List.forall_mem_cons.mpr ⟨rfl, List.forall_mem_cons.mpr ⟨rfl, List.forall_mem_cons.mpr ⟨rfl, List.forall_mem_cons.mpr ⟨rfl, fun _ h => absurd h List.not_mem_nil⟩⟩⟩⟩⟩⟩⟩⟩) (Nat.le_refl _) (Nat.le_refl _) (c_step_652 ⟨⟨hC, hm, rfl⟩, hD, hW, hI⟩ ht ha hb ))
      · exact s_swin (off := 601) (tgt := 662) dL_step_61 (by rw [hy]; decide) (by rw [hy]; decide) (by rw [hy]; rfl) (by decide) (s_sub (lo' := [(0, .ref w.th), (1, .ref da), (2, .ref wa), (3, .int x), (4, .int a), (5, .int b), (6, .int (a - a / (nI w.n) * (nI w.n))), (7, .int (b - b / (nI w.no) * (nI w.no)))]) (List.forall_mem_cons.mpr ⟨rfl, List.forall_mem_cons.mpr ⟨rfl, List.forall_mem_cons.mpr ⟨rfl, List.forall_mem_cons.mpr ⟨rfl, List.forall_mem_cons.mpr ⟨rfl, List.forall_mem_cons.mpr ⟨rfl, List.forall_mem_cons.mpr ⟨rfl, List.forall_mem_cons.mpr ⟨rfl, fun _ h => absurd h List.not_mem_nil⟩⟩⟩⟩⟩⟩⟩⟩) (Nat.le_refl _) (Nat.le_refl _) (c_step_662 ⟨⟨hC, hm, rfl⟩, hD, hW, hI⟩ ht ha hb hcl hof))
      · exact s_swin (off := 611) (tgt := 672) dL_step_61 (by rw [hy]; decide) (by rw [hy]; decide) (by rw [hy]; rfl) (by decide) (s_sub (lo' := [(0, .ref w.th), (1, .ref da), (2, .ref wa), (3, .int x), (4, .int a), (5, .int b), (6, .int (a - a / (nI w.n) * (nI w.n))), (7, .int (b - b / (nI w.no) * (nI w.no)))]) (List.forall_mem_cons.mpr ⟨rfl, List.forall_mem_cons.mpr ⟨rfl, List.forall_mem_cons.mpr ⟨rfl, List.forall_mem_cons.mpr ⟨rfl, List.forall_mem_cons.mpr ⟨rfl, List.forall_mem_cons.mpr ⟨rfl, List.forall_mem_cons.mpr ⟨rfl, List.forall_mem_cons.mpr ⟨rfl, fun _ h => absurd h List.not_mem_nil⟩⟩⟩⟩⟩⟩⟩⟩) (Nat.le_refl _) (Nat.le_refl _) (c_step_672 ⟨⟨hC, hm, rfl⟩, hD, hW, hI⟩ ht ha hb hcl hof))
      · exact s_swin (off := 611) (tgt := 672) dL_step_61 (by rw [hy]; decide) (by rw [hy]; decide) (by rw [hy]; rfl) (by decide) (s_sub (lo' := [(0, .ref w.th), (1, .ref da), (2, .ref wa), (3, .int x), (4, .int a), (5, .int b), (6, .int (a - a / (nI w.n) * (nI w.n))), (7, .int (b - b / (nI w.no) * (nI w.no)))]) (List.forall_mem_cons.mpr ⟨rfl, List.forall_mem_cons.mpr ⟨rfl, List.forall_mem_cons.mpr ⟨rfl, List.forall_mem_cons.mpr ⟨rfl, List.forall_mem_cons.mpr ⟨rfl, List.forall_mem_cons.mpr ⟨rfl, List.forall_mem_cons.mpr ⟨rfl, List.forall_mem_cons.mpr ⟨rfl, fun _ h => absurd h List.not_mem_nil⟩⟩⟩⟩⟩⟩⟩⟩) (Nat.le_refl _) (Nat.le_refl _) (c_step_672 ⟨⟨hC, hm, rfl⟩, hD, hW, hI⟩ ht ha hb hcl hof))
      · exact s_swin (off := 655) (tgt := 716) dL_step_61 (by rw [hy]; decide) (by rw [hy]; decide) (by rw [hy]; rfl) (by decide) (s_sub (lo' := [(0, .ref w.th), (1, .ref da), (2, .ref wa), (3, .int x), (4, .int a), (5, .int b), (6, .int (a - a / (nI w.n) * (nI w.n))), (7, .int (b - b / (nI w.no) * (nI w.no)))]) (List.forall_mem_cons.mpr ⟨rfl, List.forall_mem_cons.mpr ⟨rfl, List.forall_mem_cons.mpr ⟨rfl, List.forall_mem_cons.mpr ⟨rfl, List.forall_mem_cons.mpr ⟨rfl, List.forall_mem_cons.mpr ⟨rfl, List.forall_mem_cons.mpr ⟨rfl, List.forall_mem_cons.mpr ⟨rfl, fun _ h => absurd h List.not_mem_nil⟩⟩⟩⟩⟩⟩⟩⟩) (Nat.le_refl _) (Nat.le_refl _) (c_step_716 ⟨⟨hC, hm, rfl⟩, hD, hW, hI⟩ ht ha hb hof))
      · exact s_swin (off := 718) (tgt := 779) dL_step_61 (by rw [hy]; decide) (by rw [hy]; decide) (by rw [hy]; rfl) (by decide) (s_sub (lo' := [(0, .ref w.th), (1, .ref da), (2, .ref wa), (3, .int x), (4, .int a), (5, .int b), (6, .int (a - a / (nI w.n) * (nI w.n))), (7, .int (b - b / (nI w.no) * (nI w.no)))]) (List.forall_mem_cons.mpr ⟨rfl, List.forall_mem_cons.mpr ⟨rfl, List.forall_mem_cons.mpr ⟨rfl, List.forall_mem_cons.mpr ⟨rfl, List.forall_mem_cons.mpr ⟨rfl, List.forall_mem_cons.mpr ⟨rfl, List.forall_mem_cons.mpr ⟨rfl, List.forall_mem_cons.mpr ⟨rfl, fun _ h => absurd h List.not_mem_nil⟩⟩⟩⟩⟩⟩⟩⟩) (Nat.le_refl _) (Nat.le_refl _) (c_step_779 ⟨⟨hC, hm, rfl⟩, hD, hW, hI⟩ ht ha hb ))
      · exact s_swin (off := 790) (tgt := 851) dL_step_61 (by rw [hy]; decide) (by rw [hy]; decide) (by rw [hy]; rfl) (by decide) (s_sub (lo' := [(0, .ref w.th), (1, .ref da), (2, .ref wa), (3, .int x), (4, .int a), (5, .int b), (6, .int (a - a / (nI w.n) * (nI w.n))), (7, .int (b - b / (nI w.no) * (nI w.no)))]) (List.forall_mem_cons.mpr ⟨rfl, List.forall_mem_cons.mpr ⟨rfl, List.forall_mem_cons.mpr ⟨rfl, List.forall_mem_cons.mpr ⟨rfl, List.forall_mem_cons.mpr ⟨rfl, List.forall_mem_cons.mpr ⟨rfl, List.forall_mem_cons.mpr ⟨rfl, List.forall_mem_cons.mpr ⟨rfl, fun _ h => absurd h List.not_mem_nil⟩⟩⟩⟩⟩⟩⟩⟩) (Nat.le_refl _) (Nat.le_refl _) (c_step_851 ⟨⟨hC, hm, rfl⟩, hD, hW, hI⟩ ht ha hb hcl))
      · exact s_swin (off := 878) (tgt := 939) dL_step_61 (by rw [hy]; decide) (by rw [hy]; decide) (by rw [hy]; rfl) (by decide) (s_sub (lo' := [(0, .ref w.th), (1, .ref da), (2, .ref wa), (3, .int x), (4, .int a), (5, .int b), (6, .int (a - a / (nI w.n) * (nI w.n))), (7, .int (b - b / (nI w.no) * (nI w.no)))]) (List.forall_mem_cons.mpr ⟨rfl, List.forall_mem_cons.mpr ⟨rfl, List.forall_mem_cons.mpr ⟨rfl, List.forall_mem_cons.mpr ⟨rfl, List.forall_mem_cons.mpr ⟨rfl, List.forall_mem_cons.mpr ⟨rfl, List.forall_mem_cons.mpr ⟨rfl, List.forall_mem_cons.mpr ⟨rfl, fun _ h => absurd h List.not_mem_nil⟩⟩⟩⟩⟩⟩⟩⟩) (Nat.le_refl _) (Nat.le_refl _) (c_step_939 ⟨⟨hC, hm, rfl⟩, hD, hW, hI⟩ ht ha hb hcl))
      · exact s_swin (off := 908) (tgt := 969) dL_step_61 (by rw [hy]; decide) (by rw [hy]; decide) (by rw [hy]; rfl) (by decide) (s_sub (lo' := [(0, .ref w.th), (1, .ref da), (2, .ref wa), (3, .int x), (4, .int a), (5, .int b), (6, .int (a - a / (nI w.n) * (nI w.n))), (7, .int (b - b / (nI w.no) * (nI w.no)))]) (List.forall_mem_cons.mpr ⟨rfl, List.forall_mem_cons.mpr ⟨rfl, List.forall_mem_cons.mpr ⟨rfl, List.forall_mem_cons.mpr ⟨rfl, List.forall_mem_cons.mpr ⟨rfl, List.forall_mem_cons.mpr ⟨rfl, List.forall_mem_cons.mpr ⟨rfl, List.forall_mem_cons.mpr ⟨rfl, fun _ h => absurd h List.not_mem_nil⟩⟩⟩⟩⟩⟩⟩⟩) (Nat.le_refl _) (Nat.le_refl _) (c_step_969 ⟨⟨hC, hm, rfl⟩, hD, hW, hI⟩ ht ha hb ))
      · exact s_swout (tgt := 1026) dL_step_61 (Or.inr (by rw [hy]; decide)) (by decide) (s_sub (lo' := [(0, .ref w.th), (1, .ref da), (2, .ref wa), (3, .int x), (4, .int a), (5, .int b), (6, .int (a - a / (nI w.n) * (nI w.n))), (7, .int (b - b / (nI w.no) * (nI w.no)))]) (List.forall_mem_cons.mpr ⟨rfl, List.forall_mem_cons.mpr ⟨rfl, List.forall_mem_cons.mpr ⟨rfl, List.forall_mem_cons.mpr ⟨rfl, List.forall_mem_cons.mpr ⟨rfl, List.forall_mem_cons.mpr ⟨rfl, List.forall_mem_cons.mpr ⟨rfl, List.forall_mem_cons.mpr ⟨rfl, fun _ h => absurd h List.not_mem_nil⟩⟩⟩⟩⟩⟩⟩⟩) (Nat.le_refl _) (Nat.le_refl _) (c_step_1026 ⟨⟨hC, hm, rfl⟩, hD, hW, hI⟩ ht ha hb ))
theorem and_nn {v : Int32} : 0 ≤ (v &&& 2147483647).toInt := by
  have e : ∀ z : Int32, 0 ≤ z.toInt ↔ z.toBitVec.msb = false := by
    intro z
    rw [show z.toInt = z.toBitVec.toInt from rfl, BitVec.msb_eq_toInt]
    simp
  rw [e, Int32.toBitVec_and, BitVec.msb_and]
  have : (2147483647 : Int32).toBitVec.msb = false := by decide
  rw [this, Bool.and_false]
theorem nI_3 {k j : Nat} (hk : k ≤ 60) : (3 : Int32) * nI k + nI j = nI (3 * k + j) := by
  rw [← nI_add]
  congr 1
  rw [re_ieq, Int32.toInt_mul, re_nI (by omega), re_nI (by omega), show (3 : Int32).toInt = 3 from rfl]
  exact Int.bmod_eq_of_le (by omega) (by omega)
theorem nI_30 {k : Nat} (hk : k ≤ 60) : (3 : Int32) * nI k = nI (3 * k) := by
  have := nI_3 (j := 0) hk
  rw [show nI 0 = 0 from rfl, Int32.add_zero] at this
  exact this
abbrev QL : Out → Sto → Prop := fun o _ => o = .inl (some (.int 1))
theorem law_end {tm : Nat × Nat} {sa th da wa K k bc bs : Nat} {S : Sto} : Wp (Ev tm) tm M_L_law QL 155 [(0, .ref sa), (1, .ref th), (2, .ref da), (3, .ref wa), (4, .int 1), (5, .int (nI K)), (6, .int (nI k))] [] bc bs S := by
  refine s_iload dL_law_155 rfl ?_
  exact s_reti dL_law_157 rfl (nr_bool (by decide)) rfl
set_option maxHeartbeats 8000000 in
theorem law_loop {tm : Nat × Nat} {sa th da wa len K : Nat} (hK : K ≤ 60) (hl : 3 * K ≤ len) (hN : len ≤ 260) : ∀ (r k : Nat), k + r = K → ∀ (S : Sto) (w : CAd) (c : CC) (bc bs : Nat), LW tm th da wa k S w c → sK S sa = 12 → sN S sa = len → 2070 * r ≤ bc → 26000 * r ≤ bs → Wp (Ev tm) tm M_L_law QL 84 [(0, .ref sa), (1, .ref th), (2, .ref da), (3, .ref wa), (4, .int 1), (5, .int (nI K)), (6, .int (nI k))] [] bc bs S := by
  intro r
  induction r with
  | zero =>
    intro k hkr S w c bc bs L k0 n0 hb1 hb2
    have hk : k = K := by omega
    subst hk
    refine s_iload dL_law_84 rfl ?_
    refine s_iload dL_law_86 rfl ?_
    refine s_icge (tgt := 155) dL_law_88 (by decide) (fun c_88 => ?_) (fun c => absurd (Int32.le_refl _) c)
    exact law_end
  | succ r ih =>
    intro k hkr S w c bc bs L k0 n0 hb1 hb2
    refine s_iload dL_law_84 rfl ?_
    refine s_iload dL_law_86 rfl ?_
    refine s_icge (tgt := 155) dL_law_88 (by decide) (fun c => absurd c (by rw [re_ile, re_nI (by omega), re_nI (by omega)]; omega)) (fun c_88 => ?_)
    refine s_iload dL_law_91 rfl ?_
    refine s_ifeq (tgt := 155) dL_law_93 (by decide) (fun c => absurd c (by decide)) (fun _ => ?_)
    refine s_aloadn dL_law_96 rfl rfl ?_
    refine s_aloadn dL_law_97 rfl rfl ?_
    refine s_aloadn dL_law_98 rfl rfl ?_
    refine s_aloadn dL_law_99 rfl rfl ?_
    refine s_iconst (v := 3) dL_law_100 (by decide) ?_
    refine s_iload dL_law_101 rfl ?_
    refine s_imul dL_law_103 ?_
    rw [show 3 * (nI k) = nI (3 * k) from nI_30 (by omega)]
    refine s_cs2R (n := 28) dL_law_104 rfl rfl (by decide) (by decide) (show 0 ≤ bc by omega) (show 0 ≤ bs by omega) (Nat.le_of_ble_eq_true rfl) (m_L_draw k0 (by rw [n0]; omega) (by rw [n0]; omega)) ?_
    refine s_aloadn dL_law_107 rfl rfl ?_
    refine s_iconst (v := 3) dL_law_108 (by decide) ?_
    refine s_iload dL_law_109 rfl ?_
    refine s_imul dL_law_111 ?_
    refine s_iconst (v := 1) dL_law_112 (by decide) ?_
    refine s_iadd dL_law_113 ?_
    rw [show (3 * (nI k)) + 1 = nI (3 * k + 1) from nI_3 (j := 1) (by omega)]
    refine s_cs2R (n := 28) dL_law_114 rfl rfl (by decide) (by decide) (show 0 ≤ bc - 0 by omega) (show 0 ≤ bs - 0 by omega) (Nat.le_of_ble_eq_true rfl) (m_L_draw k0 (by rw [n0]; omega) (by rw [n0]; omega)) ?_
    refine s_aloadn dL_law_117 rfl rfl ?_
    refine s_iconst (v := 3) dL_law_118 (by decide) ?_
    refine s_iload dL_law_119 rfl ?_
    refine s_imul dL_law_121 ?_
    refine s_iconst (v := 2) dL_law_122 (by decide) ?_
    refine s_iadd dL_law_123 ?_
    rw [show (3 * (nI k)) + 2 = nI (3 * k + 2) from nI_3 (j := 2) (by omega)]
    refine s_cs2R (n := 28) dL_law_124 rfl rfl (by decide) (by decide) (show 0 ≤ bc - 0 - 0 by omega) (show 0 ≤ bs - 0 - 0 by omega) (Nat.le_of_ble_eq_true rfl) (m_L_draw k0 (by rw [n0]; omega) (by rw [n0]; omega)) ?_
    refine s_cs6G (n := 29) dL_law_127 rfl rfl (by decide) (by decide) (show 420 ≤ bc - 0 - 0 - 0 by omega) (show 16000 ≤ bs - 0 - 0 - 0 by omega) (Nat.le_of_ble_eq_true rfl) (m_L_step L (by omega) and_nn and_nn and_nn) (fun r S1 hr => ?_) (fun x S2 hr => by have h := hr.1; cases h)
    obtain ⟨er, ⟨w1, c1, L1⟩, f1⟩ := hr
    cases er
    refine s_ifeq (tgt := 146) dL_law_130 (by decide) (fun c => absurd c (by decide)) (fun _ => ?_)
    refine s_aloadn dL_law_133 rfl rfl ?_
    refine s_aloadn dL_law_134 rfl rfl ?_
    refine s_aloadn dL_law_135 rfl rfl ?_
    refine s_cs3G (n := 30) dL_law_136 rfl rfl (by decide) (by decide) (show 1650 ≤ bc - 0 - 0 - 0 - 420 by omega) (show 10000 ≤ bs - 0 - 0 - 0 - 16000 by omega) (Nat.le_of_ble_eq_true rfl) (m_L_isWhole L1) (fun r S2 hr => ?_) (fun x S2 hr => by have h := hr.1; cases h)
    obtain ⟨er, ⟨w2, c2, L2⟩, f2⟩ := hr
    cases er
    refine s_ifeq (tgt := 146) dL_law_139 (by decide) (fun c => absurd c (by decide)) (fun _ => ?_)
    refine s_iconst (v := 1) dL_law_142 (by decide) ?_
    refine s_goto (tgt := 147) dL_law_143 (by decide) ?_
    refine s_istore dL_law_147 (by decide) ?_
    refine s_iinc (v := nI (k + 1)) dL_law_149 rfl (re_cnt (show k < 600 by omega)).2 (by decide) ?_
    refine s_goto (tgt := 84) dL_law_152 (by decide) ?_
    have e12 := (f1.tr f2) sa k0
    exact s_sub (lo' := [(0, .ref sa), (1, .ref th), (2, .ref da), (3, .ref wa), (4, .int 1), (5, .int (nI K)), (6, .int (nI (k + 1)))]) (List.forall_mem_cons.mpr ⟨rfl, List.forall_mem_cons.mpr ⟨rfl, List.forall_mem_cons.mpr ⟨rfl, List.forall_mem_cons.mpr ⟨rfl, List.forall_mem_cons.mpr ⟨rfl, List.forall_mem_cons.mpr ⟨rfl, List.forall_mem_cons.mpr ⟨rfl, fun _ h => absurd h List.not_mem_nil⟩⟩⟩⟩⟩⟩⟩) (show 2070 * r ≤ bc - 0 - 0 - 0 - 420 - 1650 by omega) (show 26000 * r ≤ bs - 0 - 0 - 0 - 16000 - 10000 by omega) (ih (k + 1) (by omega) S2 w2 c2 _ _ L2 (e12.1.trans k0) (e12.2.1.trans n0) (Nat.le_refl _) (Nat.le_refl _))
theorem CW.sal {tm : Nat × Nat} {S : Sto} {w : CAd} {c : CC} {a k n : Nat} (h : CW tm S w c) (ha : sK S a = 99) : CW tm (sal S a k n) w c :=
  h.fr fun b hb => same5.rf.A (fun e => by rw [e, ha] at hb; unfold ck at hb; omega)
set_option maxHeartbeats 8000000 in
theorem law_go {tm : Nat × Nat} {S : Sto} {sa len : Nat} {s : Nat → Int32} (hk : sK S sa = 12) (hn : sN S sa = len) (_ : sI S sa = s) (hl : len ≤ 260) (h13 : sK S tm.1 = 13) (hn13 : sN S tm.1 = 0) : Wp (Ev tm) tm M_L_law QL 0 [(0, .ref sa)] [] 600056 7301712 S := by
  refine s_new (n := 0) dL_law_0 rfl (by decide) (by decide) (fun a ha => ?_)
  refine s_dup dL_law_3 rfl ?_
  refine s_ci0G (n := 6) dL_law_4 rfl rfl (by decide) (by decide) (by decide) (by decide) (by show (1 : Nat) ≤ 8; decide) (m_X3_init ha h13 hn13) (fun r1 S1 hr1 => ?_) (fun x S1 hr => by have := hr.1; cases this)
  obtain ⟨e1, w, w1, w2, w3, w4, w5, hC, fC⟩ := hr1
  cases e1
  refine s_astoren dL_law_7 rfl (by decide) ?_
  refine s_iconst (v := 5) dL_law_8 (by decide) ?_
  refine s_newi (kd := 6) (N := 5) dL_law_9 rfl (by decide) rfl (by decide) (by decide) (by decide) (fun da hd => ?_)
  refine s_astoren dL_law_11 rfl (by decide) ?_
  refine s_iconst (v := 1) dL_law_12 (by decide) ?_
  refine s_newj (kd := 11) (N := 1) dL_law_13 (Or.inr (Or.inr rfl)) (by decide) rfl (by decide) (by decide) (by decide) (fun wa hw => ?_)
  refine s_astoren dL_law_15 rfl (by decide) ?_
  have f1 := fC sa (by rw [hk]; decide)
  have k1 : sK S1 sa = 12 := f1.1.trans hk
  have hne : sa ≠ da := fun e => by rw [e, hd] at k1; exact absurd k1 (by decide)
  have f2 : same5 S1 (sal S1 da 6 5) sa := same5.rf.A hne
  have k2 : sK (sal S1 da 6 5) sa = 12 := f2.1.trans k1
  have hne2 : sa ≠ wa := fun e => by rw [e, hw] at k2; exact absurd k2 (by decide)
  have f3 : same5 (sal S1 da 6 5) (sal (sal S1 da 6 5) wa 11 1) sa := same5.rf.A hne2
  have k3 : sK (sal (sal S1 da 6 5) wa 11 1) sa = 12 := f3.1.trans k2
  have n3 : sN (sal (sal S1 da 6 5) wa 11 1) sa = len := f3.2.1.trans (f2.2.1.trans (f1.2.1.trans hn))
  have kd : sK (sal S1 da 6 5) da = 6 := up1_self
  have hdw : da ≠ wa := fun e => by subst e; rw [kd] at hw; exact absurd hw (by decide)
  have f4 : same5 (sal S1 da 6 5) (sal (sal S1 da 6 5) wa 11 1) da := same5.rf.A hdw
  have zd : sI (sal (sal S1 da 6 5) wa 11 1) da = fun _ => 0 := f4.2.2.1.trans upr_self
  have hD : DR (sal (sal S1 da 6 5) wa 11 1) da 0 0 0 0 0 := ⟨f4.1.trans kd, f4.2.1.trans up1_self, by rw [zd], by rw [zd], by rw [zd], by rw [zd], by rw [zd]⟩
  have hW : WR (sal (sal S1 da 6 5) wa 11 1) wa 0 := ⟨up1_self, up1_self, by show upr _ wa _ wa 0 = 0; rw [upr_self]⟩
  have hC3 : CW tm (sal (sal S1 da 6 5) wa 11 1) w cc0 := (hC.sal hd).sal hw
  have LL : LW tm w.th da wa 0 (sal (sal S1 da 6 5) wa 11 1) w cc0 := LW.of hC3 (w3.trans w2.symm) rfl w2 w4 w5 hD rfl rfl rfl rfl rfl hW rfl ⟨⟨mc0, re_beg⟩, ⟨⟨by decide, by decide⟩, fun i hi => absurd hi (Nat.not_lt_zero _)⟩⟩
  have elen : (Int32.ofNat len / 3 : Int32).toInt = (len / 3 : Nat) := by
    have e0 : (Int32.ofNat len).toInt = len := re_nI (show len < 2147483648 by omega)
    rw [re_idiv (by omega) (by decide), e0]; rfl
  have elenI : Int32.ofNat len / 3 = nI (len / 3) := by
    rw [re_ieq, elen, re_nI (by omega)]
  rw [← w1]
  refine s_aloadn dL_law_16 rfl rfl ?_
  refine s_iconst (v := 2) dL_law_17 (by decide) ?_
  refine s_q1 (n := 71) dL_law_18 rfl (kv hC3.th (by decide) rfl) rfl (by decide) (by decide) (by decide) (by decide) (Nat.le_of_ble_eq_true rfl) (r_X3_ofState hC3) (a_os2) ?_
  refine s_ldc2 (v := 1000000) dL_law_21 cslL_173 ?_
  refine s_lcne (tgt := 58) dL_law_24 dL_law_25 (by decide) (fun c => absurd rfl c) (fun c_24 => ?_)
  refine s_aloadn dL_law_28 rfl rfl ?_
  refine s_cv0R (n := 58) dL_law_29 rfl (kv hC3.th (by decide) rfl) rfl (by decide) (by decide) (by decide) (by decide) (Nat.le_of_ble_eq_true rfl) (m_X3_areAlike hC3) ?_
  refine s_ifeq (tgt := 58) dL_law_32 (by decide) (fun c => absurd c (by rw [w2]; decide +kernel)) (fun c_32 => ?_)
  refine s_aloadn dL_law_35 rfl rfl ?_
  refine s_bipush (v := 30) dL_law_36 (by decide) ?_
  refine s_q1 (n := 57) dL_law_38 rfl (kv hC3.th (by decide) rfl) rfl (by decide) (by decide) (by decide) (by decide) (Nat.le_of_ble_eq_true rfl) (r_X3_isBearable hC3) ((a_bear (by decide)).trans (by rw [show ix 30 = 30 by decide])) ?_
  refine s_ifeq (tgt := 58) dL_law_41 (by decide) (fun c => absurd c (by rw [w2]; decide +kernel)) (fun c_41 => ?_)
  refine s_aloadn dL_law_44 rfl rfl ?_
  refine s_iconst (v := 4) dL_law_45 (by decide) ?_
  refine s_q1 (n := 71) dL_law_46 rfl (kv hC3.th (by decide) rfl) rfl (by decide) (by decide) (by decide) (by decide) (Nat.le_of_ble_eq_true rfl) (r_X3_ofState hC3) (a_os4) ?_
  refine s_lconst (v := 0) dL_law_49 (by decide) ?_
  refine s_lcne (tgt := 58) dL_law_50 dL_law_51 (by decide) (fun c => absurd rfl c) (fun c_50 => ?_)
  refine s_iconst (v := 1) dL_law_54 (by decide) ?_
  refine s_goto (tgt := 59) dL_law_55 (by decide) ?_
  refine s_istore dL_law_59 (by decide) ?_
  refine s_aloadn dL_law_61 rfl rfl ?_
  refine s_slen dL_law_62 k3 ?_
  rw [n3]
  refine s_iconst (v := 3) dL_law_63 (by decide) ?_
  refine s_idiv dL_law_64 (by decide) ?_
  refine s_bipush (v := 60) dL_law_65 (by decide) ?_
  refine s_icle (tgt := 75) dL_law_67 (by decide) (fun c_67 => ?_) (fun c_67 => ?_)
  · skip
    refine s_aloadn dL_law_75 rfl rfl ?_
    refine s_slen dL_law_76 k3 ?_
    rw [n3]
    refine s_iconst (v := 3) dL_law_77 (by decide) ?_
    refine s_idiv dL_law_78 (by decide) ?_
    refine s_istore dL_law_79 (by decide) ?_
    refine s_iconst (v := 0) dL_law_81 (by decide) ?_
    refine s_istore dL_law_82 (by decide) ?_
    have hK : len / 3 ≤ 60 := by
      rw [re_ile, elen, show (60 : Int32).toInt = 60 from rfl] at c_67
      omega
    exact s_sub (lo' := [(0, .ref sa), (1, .ref w.th), (2, .ref da), (3, .ref wa), (4, .int 1), (5, .int (nI (len / 3))), (6, .int (nI 0))]) (List.forall_mem_cons.mpr ⟨rfl, List.forall_mem_cons.mpr ⟨rfl, List.forall_mem_cons.mpr ⟨rfl, List.forall_mem_cons.mpr ⟨rfl, List.forall_mem_cons.mpr ⟨rfl, List.forall_mem_cons.mpr ⟨congrArg (fun z => some (Value.int z)) (elenI), List.forall_mem_cons.mpr ⟨rfl, fun _ h => absurd h List.not_mem_nil⟩⟩⟩⟩⟩⟩⟩) (show 2070 * (len / 3) ≤ 600056 - 1 - 3 - 1 - 1 - 1 - 0 - 1 - 1 by omega) (show 26000 * (len / 3) ≤ 7301712 - 14 - 9 - 5 - 1 - 6 - 0 - 6 - 6 by omega) (law_loop (K := (len / 3)) (by omega) (by omega) hl (len / 3) 0 (Nat.zero_add _) _ w cc0 _ _ LL k3 n3 (Nat.le_refl _) (Nat.le_refl _))
  · skip
    refine s_bipush (v := 60) dL_law_70 (by decide) ?_
    refine s_goto (tgt := 79) dL_law_72 (by decide) ?_
    refine s_istore dL_law_79 (by decide) ?_
    refine s_iconst (v := 0) dL_law_81 (by decide) ?_
    refine s_istore dL_law_82 (by decide) ?_
    have hK : 180 ≤ len := by
      rw [re_ile, elen, show (60 : Int32).toInt = 60 from rfl] at c_67
      omega
    exact s_sub (lo' := [(0, .ref sa), (1, .ref w.th), (2, .ref da), (3, .ref wa), (4, .int 1), (5, .int (nI 60)), (6, .int (nI 0))]) (List.forall_mem_cons.mpr ⟨rfl, List.forall_mem_cons.mpr ⟨rfl, List.forall_mem_cons.mpr ⟨rfl, List.forall_mem_cons.mpr ⟨rfl, List.forall_mem_cons.mpr ⟨rfl, List.forall_mem_cons.mpr ⟨rfl, List.forall_mem_cons.mpr ⟨rfl, fun _ h => absurd h List.not_mem_nil⟩⟩⟩⟩⟩⟩⟩) (show 2070 * 60 ≤ 600056 - 1 - 3 - 1 - 1 - 1 - 0 - 1 - 1 by omega) (show 26000 * 60 ≤ 7301712 - 14 - 9 - 5 - 1 - 6 - 0 - 6 - 6 by omega) (law_loop (K := 60) (by omega) (by omega) hl 60 0 (Nat.zero_add _) _ w cc0 _ _ LL k3 n3 (Nat.le_refl _) (Nat.le_refl _))
