/-! THE LAW, 9: a seizure -/
theorem p_seize {n no nt t : Nat} {c : CC} {k g : Int32} (I : IV n no nt t c) (hk : inr k n) (hg : inr g nt) :
    f_X3_seize n nt c k g = (.inr 2, c) ∨
    (∃ v c', f_X3_seize n nt c k g = (.inl (some (.long v)), c') ∧ ¬ v = -2 ∧ IV n no nt t c' ∧ c'.ti = c.ti ∧ f_X3_seize n nt c' k g = (.inr 2, c') ∧
      c'.cj (ix k) 5 + c'.cj (ix k) 9 = c.cj (ix k) 5 + c.cj (ix k) 9 - v ∧ (c'.cj (ix k) 5 + c'.cj (ix k) 9 = 0 ↔ c'.ci (ix k) 8 = 1) ∧ (¬ c'.cj (ix k) 5 + c'.cj (ix k) 9 = 0 → c'.tj 4 = c.tj 4) ∧
      c'.tj 4 + sA c' n = c.tj 4 + sA c n + (v + c'.tj 4 - c.tj 4 - (if c'.cj (ix k) 5 + c'.cj (ix k) 9 = 0 then c.cj (ix k) 10 else 0))) := by
  obtain ⟨⟨m, h, b⟩, xs⟩ := I
  obtain ⟨_, e2, b2⟩ := q_seize (k := k) (g := g) h b
  have hn := b.1.1
  have hi := re_inl (show n ≤ 600 by omega) hk
  have hj := re_inl (show nt ≤ 600 by have := b.1.2.2.1; omega) hg
  have two : ∀ c1 : CC, ¬ c1.gi (ix g) 1 = 0 → f_X3_seize n nt c1 k g = (.inr 2, c1) := fun c1 h1 => by
    unfold f_X3_seize
    rw [if_pos hk, if_pos hg, if_neg h1]
    split
    · rfl
    · split <;> rfl
  by_cases h8 : c.ci (ix k) 8 = 0
  · by_cases h11 : c.ci (ix k) 11 = 2
    · by_cases hz : c.gi (ix g) 1 = 0
      · right
        obtain ⟨b0, b1, b2', b3, b4, b5, b6, b7, b8, b9, b10, b11, b12, b13, b14⟩ := b.at hi
        have hty := b.2.1
        have hg6 := gB_le (show ix (c.ti 3) ≤ 60 by rw [re_ix]; omega)
        have hsz : szd c.gi nt + 1 ≤ 10 := by
          have h1 := szd_put (g := c.gi) hz hj
          have h2 := szd_le (g := up2 c.gi (ix g) 1 1) nt
          have h3 := b.1.2.2.1
          omega
        have hWb := b.2.2.2.2.2.2.2.2.2.2.2 _ hj
        obtain ⟨x1, x2, x3, x4⟩ := xs.2 _ hi
        have hix : ix (c.ti 3) ≤ 60 := by rw [re_ix]; omega
        have hW : (c.gi (ix g) 0).toInt64.toInt = (c.gi (ix g) 0).toInt := re_w
        generalize hWW : (c.gi (ix g) 0).toInt64 = W at *
        obtain ⟨F, hF⟩ : ∃ F : Int64, F = if c.cj (ix k) 9 ≤ W then c.cj (ix k) 9 else W := ⟨_, rfl⟩
        obtain ⟨S, hS⟩ : ∃ S : Int64, S = if c.cj (ix k) 5 ≤ W - F then c.cj (ix k) 5 else W - F := ⟨_, rfl⟩
        obtain ⟨m1, m2, m3, m4, m5, m6⟩ := re_min (W := W) (by omega) b9.2.1 b9.1 (by omega) hF hS
        have f0 : 0 ≤ F.toInt ∧ F.toInt ≤ (c.cj (ix k) 9).toInt ∧ F.toInt ≤ W.toInt := by
          rw [hF]; split
          · rename_i e; rw [re_le] at e; omega
          · rename_i e; rw [re_le] at e; omega
        have eWF : (W - F).toInt = W.toInt - F.toInt := re_sub (by omega) (by omega)
        have s0 : 0 ≤ S.toInt ∧ S.toInt ≤ (c.cj (ix k) 5).toInt ∧ S.toInt ≤ W.toInt - F.toInt ∧ (S.toInt = (c.cj (ix k) 5).toInt ∨ S.toInt = W.toInt - F.toInt) := by
          rw [hS]; split
          · rename_i e; rw [re_le, eWF] at e; omega
          · rename_i e; rw [re_le, eWF] at e; rw [eWF]; omega
        have eo : i_X0_owed c (ix k) = c.cj (ix k) 5 + c.cj (ix k) 9 := rfl
        obtain ⟨p1, p2, p3, p4, p5, p6, p7, p8, p9⟩ := re_recvG (c := c.pgi (ix g) 1 1) (i := ix k) (x := F + S) (F := F) m2 (by show (c.ci (ix k) 17).toInt < 70; omega)
        have eS : F + S - F = S := by grind
        rw [eS] at p4
        have eg0 : ((f_X0_receive (c.pgi (ix g) 1 1) (ix k) (F + S)).gi (ix g) 0).toInt64 = W := by
          rw [p1.2.2.2.2.2]
          show (up2 c.gi (ix g) 1 1 (ix g) 0).toInt64 = W
          rw [re_upk (by decide)]; exact hWW
        have eg1 : ¬ (f_X0_receive (c.pgi (ix g) 1 1) (ix k) (F + S)).gi (ix g) 1 = 0 := by
          rw [p1.2.2.2.2.2]
          show ¬ up2 c.gi (ix g) 1 1 (ix g) 1 = 0
          rw [re_up1]; decide
        have eFS : (F + S).toInt = F.toInt + S.toInt := re_add (by omega) (by omega)
        have nv : ¬ F + S = -2 := by rw [re_eq, eFS, show (-2 : Int64).toInt = -2 from rfl]; omega
        have key : f_X3_seize n nt c k g = if i_X0_owed ((f_X0_receive (c.pgi (ix g) 1 1) (ix k) (F + S)).ptj 4 (c.tj 4 + (W - (F + S)))) (ix k) = 0 then (.inl (some (.long (F + S))), f_X3_close ((f_X0_receive (c.pgi (ix g) 1 1) (ix k) (F + S)).ptj 4 (c.tj 4 + (W - (F + S)))) (ix k)) else (.inl (some (.long (F + S))), (f_X0_receive (c.pgi (ix g) 1 1) (ix k) (F + S)).ptj 4 (c.tj 4 + (W - (F + S)))) := by
          unfold f_X3_seize
          rw [if_pos hk, if_pos hg, if_neg (fun e => (re_open.mp e) h8), if_pos h11, if_pos hz, hWW, eo, m1, eg0, p2]
        have r5 : (f_X0_receive (c.pgi (ix g) 1 1) (ix k) (F + S)).cj (ix k) 5 = c.cj (ix k) 5 - S := p4
        have r9 : (f_X0_receive (c.pgi (ix g) 1 1) (ix k) (F + S)).cj (ix k) 9 = c.cj (ix k) 9 - F := p3
        have r15 : (f_X0_receive (c.pgi (ix g) 1 1) (ix k) (F + S)).cj (ix k) 15 = c.cj (ix k) 15 + (F + S) := p5
        have r10 : (f_X0_receive (c.pgi (ix g) 1 1) (ix k) (F + S)).cj (ix k) 10 = c.cj (ix k) 10 := p6 10 (by decide) (by decide) (by decide)
        have r13 : (f_X0_receive (c.pgi (ix g) 1 1) (ix k) (F + S)).cj (ix k) 13 = c.cj (ix k) 13 := p6 13 (by decide) (by decide) (by decide)
        have r14 : (f_X0_receive (c.pgi (ix g) 1 1) (ix k) (F + S)).cj (ix k) 14 = c.cj (ix k) 14 := p6 14 (by decide) (by decide) (by decide)
        have rci : ∀ q, q ≠ 17 → (f_X0_receive (c.pgi (ix g) 1 1) (ix k) (F + S)).ci (ix k) q = c.ci (ix k) q := p8
        have rti : (f_X0_receive (c.pgi (ix g) 1 1) (ix k) (F + S)).ti = c.ti := p1.1
        have roth : ∀ j, j ≠ ix k → (f_X0_receive (c.pgi (ix g) 1 1) (ix k) (F + S)).ci j = c.ci j ∧ (f_X0_receive (c.pgi (ix g) 1 1) (ix k) (F + S)).cj j = c.cj j := fun j hj => ⟨(p1.2.2.1 j hj).1, (p1.2.2.1 j hj).2.1⟩
        have rgi : (f_X3_close ((f_X0_receive (c.pgi (ix g) 1 1) (ix k) (F + S)).ptj 4 (c.tj 4 + (W - (F + S)))) (ix k)).gi = (f_X0_receive (c.pgi (ix g) 1 1) (ix k) (F + S)).gi := rfl
        rw [key] at e2 b2 ⊢
        generalize f_X0_receive (c.pgi (ix g) 1 1) (ix k) (F + S) = c2 at *
        have eow : i_X0_owed (c2.ptj 4 (c.tj 4 + (W - (F + S)))) (ix k) = c2.cj (ix k) 5 + c2.cj (ix k) 9 := rfl
        rw [eow, r5, r9] at e2 b2 ⊢
        have a9 : c.ci (ix k) 1 = 0 → c.cj (ix k) 9 - F = 0 := fun e => by
          have e9 := x2 e
          have f1 : F.toInt = 0 := by rw [e9, show (0 : Int64).toInt = 0 from rfl] at f0; omega
          have : F = 0 := re_eq.mpr f1
          rw [e9, this]; rfl
        have a5 : (c.ci (ix k) 7).toInt ≤ (c.ti 3).toInt → c.cj (ix k) 5 - S = 0 := fun e => by
          have e5 := x3 h8 e
          have s1 : S.toInt = 0 := by rw [e5, show (0 : Int64).toInt = 0 from rfl] at s0; omega
          have : S = 0 := re_eq.mpr s1
          rw [e5, this]; rfl
        have eleft : c.cj (ix k) 5 - S + (c.cj (ix k) 9 - F) = c.cj (ix k) 5 + c.cj (ix k) 9 - (F + S) := by grind
        by_cases hq : c.cj (ix k) 5 - S + (c.cj (ix k) 9 - F) = 0
        · rw [if_pos hq] at e2 b2 ⊢
          have y5 : (f_X3_close (c2.ptj 4 (c.tj 4 + (W - (F + S)))) (ix k)).cj (ix k) 5 = c.cj (ix k) 5 - S := (h_e4 (by decide)).trans r5
          have y9 : (f_X3_close (c2.ptj 4 (c.tj 4 + (W - (F + S)))) (ix k)).cj (ix k) 9 = c.cj (ix k) 9 - F := (h_e4 (by decide)).trans r9
          have y15 : (f_X3_close (c2.ptj 4 (c.tj 4 + (W - (F + S)))) (ix k)).cj (ix k) 15 = c.cj (ix k) 15 + (F + S) := (h_e4 (by decide)).trans r15
          have y4 : (f_X3_close (c2.ptj 4 (c.tj 4 + (W - (F + S)))) (ix k)).tj 4 = c.tj 4 + (W - (F + S)) + c.cj (ix k) 10 := by
            rw [h_e5]; show c.tj 4 + (W - (F + S)) + c2.cj (ix k) 10 = _; rw [r10]
          have fc := h_ef (c := c2.ptj 4 (c.tj 4 + (W - (F + S)))) (i := ix k)
          have hoth : ∀ j, j ≠ ix k → (f_X3_close (c2.ptj 4 (c.tj 4 + (W - (F + S)))) (ix k)).ci j = c.ci j ∧ (f_X3_close (c2.ptj 4 (c.tj 4 + (W - (F + S)))) (ix k)).cj j = c.cj j := fun j hj => ⟨(fc.2.2.1 j hj).1.trans (roth j hj).1, (fc.2.2.1 j hj).2.1.trans (roth j hj).2⟩
          have hti : (f_X3_close (c2.ptj 4 (c.tj 4 + (W - (F + S)))) (ix k)).ti = c.ti := fc.1.trans rti
          refine ⟨F + S, _, rfl, nv, ⟨⟨_, e2, b2⟩, xs.one (i := ix k) (by rw [hti]) (by rw [hti]) hoth ?_⟩, hti, two _ (by rw [rgi]; exact eg1), ?_, ?_, fun e => ?_, ?_⟩
          · refine ⟨fun _ => h_e3, fun e => ?_, fun e => absurd e (by rw [h_e1]; decide), ?_⟩
            · rw [y9]; exact a9 (by rw [h_e2 (by decide)] at e; exact (rci 1 (by decide)).symm.trans e)
            · rw [h_e4 (by decide), h_e4 (by decide)]
              show (c2.cj (ix k) 14).toInt ≤ 270 * (c2.cj (ix k) 13).toInt + 2040
              rw [r14, r13]; exact x4
          · rw [y5, y9]; exact eleft
          · rw [y5, y9]; exact ⟨fun _ => h_e1, fun _ => hq⟩
          · exact absurd (by rw [y5, y9]; exact hq) e
          · rw [if_pos (by rw [y5, y9]; exact hq)]
            have eA := sA_one (v := F + S - c.cj (ix k) 10) hi (fun j e => (hoth j e).2) (by rw [h_e3, y15]; grind)
            rw [eA]; grind
        · rw [if_neg hq] at e2 b2 ⊢
          have hti : (c2.ptj 4 (c.tj 4 + (W - (F + S)))).ti = c.ti := rti
          have hw : W - (F + S) = 0 := by
            have l1 : (c.cj (ix k) 9 - F).toInt = (c.cj (ix k) 9).toInt - F.toInt := re_sub (by omega) (by omega)
            have l2 : (c.cj (ix k) 5 - S).toInt = (c.cj (ix k) 5).toInt - S.toInt := re_sub (by omega) (by omega)
            have l3 : (c.cj (ix k) 5 - S + (c.cj (ix k) 9 - F)).toInt = (c.cj (ix k) 5 - S).toInt + (c.cj (ix k) 9 - F).toInt := re_add (by omega) (by omega)
            have hq' : ¬ (c.cj (ix k) 5 - S + (c.cj (ix k) 9 - F)).toInt = 0 := fun e => hq (re_eq.mpr e)
            have f1 : F.toInt = (c.cj (ix k) 9).toInt ∨ F.toInt = W.toInt := by
              rw [hF]; split
              · exact Or.inl rfl
              · exact Or.inr rfl
            rw [re_eq, re_sub (by omega) (by omega), eFS, show (0 : Int64).toInt = 0 from rfl]
            omega
          refine ⟨F + S, _, rfl, nv, ⟨⟨_, e2, b2⟩, xs.one (i := ix k) (by rw [hti]) (by rw [hti]) (fun j hj => roth j hj) ?_⟩, hti, two _ eg1, ?_, ?_, fun _ => ?_, ?_⟩
          · show XC (c.ti 3).toInt (c2.ci (ix k)) (c2.cj (ix k))
            refine ⟨fun e => absurd ((rci 8 (by decide)).trans h8) e, fun e => ?_, fun _ e => ?_, ?_⟩
            · rw [r9]; exact a9 ((rci 1 (by decide)).symm.trans e)
            · rw [r5]; exact a5 (by rw [← rci 7 (by decide)]; exact e)
            · rw [r14, r13]; exact x4
          · show c2.cj (ix k) 5 + c2.cj (ix k) 9 = _
            rw [r5, r9]; exact eleft
          · show c2.cj (ix k) 5 + c2.cj (ix k) 9 = 0 ↔ c2.ci (ix k) 8 = 1
            rw [r5, r9, rci 8 (by decide), h8]
            exact ⟨fun e => absurd e hq, fun e => absurd e (by decide)⟩
          · show c.tj 4 + (W - (F + S)) = c.tj 4
            rw [hw, Int64.add_zero]
          · have eA : sA (c2.ptj 4 (c.tj 4 + (W - (F + S)))) n = sA c n + (F + S) := by
              refine sA_one hi (fun j e => (roth j e).2) ?_
              show c2.cj (ix k) 10 + c2.cj (ix k) 15 = _
              rw [r10, r15]; grind
            show c.tj 4 + (W - (F + S)) + sA (c2.ptj 4 (c.tj 4 + (W - (F + S)))) n = c.tj 4 + sA c n + (F + S + (c.tj 4 + (W - (F + S))) - c.tj 4 - (if c2.cj (ix k) 5 + c2.cj (ix k) 9 = 0 then c.cj (ix k) 10 else 0))
            rw [if_neg (by rw [r5, r9]; exact hq), eA, hw]; grind
      · exact Or.inl (two c hz)
    · left
      unfold f_X3_seize
      rw [if_pos hk, if_pos hg, if_neg (fun e => (re_open.mp e) h8), if_neg h11]
  · left
    unfold f_X3_seize
    rw [if_pos hk, if_pos hg, if_pos (re_open.mpr h8)]
