/-! THE RELATION, 15: a seizure -/
theorem re_recvG {c : CC} {i : Nat} {x F : Int64} (e : f_J9_min_f86c9 x (c.cj i 9) = F) (h17 : (c.ci i 17).toInt < 70) :
    Fc i c (f_X0_receive c i x) ∧ (f_X0_receive c i x).tj = c.tj ∧ (f_X0_receive c i x).cj i 9 = c.cj i 9 - F ∧ (f_X0_receive c i x).cj i 5 = c.cj i 5 - (x - F) ∧ (f_X0_receive c i x).cj i 15 = c.cj i 15 + x ∧
    (∀ k, k ≠ 5 → k ≠ 9 → k ≠ 15 → (f_X0_receive c i x).cj i k = c.cj i k) ∧ (f_X0_receive c i x).ci i 17 = c.ci i 17 + 1 ∧ (∀ k, k ≠ 17 → (f_X0_receive c i x).ci i k = c.ci i k) ∧
    (f_X0_receive c i x).pay i = (fun j => if j = ix (c.ci i 17) then x else c.pay i j) := by
  have hn : ¬ nI 70 ≤ c.ci i 17 := by rw [re_ile, re_nI (by decide)]; omega
  unfold f_X0_receive
  rw [e, if_neg hn]
  refine ⟨((((Fc.rf.pcj).pcj).pcj).ppay).pci, rfl, ?_, ?_, ?_, fun k h5 h9 h15 => ?_, h_b1, fun k h17 => h_b6 h17, ?_⟩
  · rw [h_b3, h_p4, h_a6 (by decide), h_a6 (by decide), h_a1]
  · rw [h_b3, h_p4, h_a6 (by decide), h_a1]
  · rw [h_b3, h_p4, h_a1]
  · rw [h_b3, h_p4, h_a6 h15, h_a6 h5, h_a6 h9]
  · rw [h_b7]; exact h_p1
theorem re_thing {n no nt t g : Nat} {c : CC} {m : MC} (h : EQ n no nt c m) (b : BD n no nt t c) (hg : g < nt) (h0 : c.gi g 1 = 0) :
    EQ n no nt (c.pgi g 1 1) ((m.pti 0 0).pai 33 g 1) ∧ BD n no nt t (c.pgi g 1 1) ∧ szd (c.pgi g 1 1).gi nt = szd c.gi nt + 1 := by
  have es : szd (up2 c.gi g 1 1) nt = szd c.gi nt + 1 := szd_put h0 hg
  obtain ⟨⟨e7, e23, e31, s1, s2, s3, s4, s5, s6, s7, s8, s9, er, nr, eo, ev, eg, ng, eb, ea⟩, hs⟩ := h
  obtain ⟨b0, b1, b2, b3, b4, b5, b6, b7, b8, b9, b10, b11⟩ := b
  refine ⟨⟨⟨e7, e23, e31, s1, s2, s3, s4, s5, s6, s7, s8, s9, er, nr, eo, ev, fun j hj => ?_, fun j hj hj10 => ?_, eb, ea⟩, hs.cg rfl rfl rfl rfl rfl⟩, ⟨b0, b1, b2, b3, b4, b5, b6, b7, b8, fun i hi => ?_, b10, fun j hj => ?_⟩, es⟩
  · show m.ai 32 j = up2 c.gi g 1 1 j 0 ∧ up2 m.ai 33 g 1 33 j = up2 c.gi g 1 1 j 1
    obtain ⟨g1, g2⟩ := eg j hj
    rw [re_upk (by decide)]
    refine ⟨g1, ?_⟩
    by_cases e : j = g
    · rw [e, re_up1, re_up1]
    · rw [re_up e, re_upk e]; exact g2
  · show up2 m.ai 33 g 1 33 j = 0
    rw [re_upk (by omega)]; exact ng j hj hj10
  · show BC t (szd (up2 c.gi g 1 1) nt) _ _ _ _ _
    rw [es]; exact (b9 i hi).mono (Nat.le_refl _) (Nat.le_succ _) (Nat.le_refl _) (Int.le_refl _)
  · show 1 ≤ (up2 c.gi g 1 1 j 0).toInt ∧ (up2 c.gi g 1 1 j 0).toInt ≤ 1000000
    rw [re_upk (by decide)]; exact b11 j hj
theorem q_seize {n no nt t : Nat} {c : CC} {m : MC} {k g : Int32} (h : EQ n no nt c m) (b : BD n no nt t c) :
    CJ [(3, 1), (2, 2)] (f_X3_seize n nt c k g).1 ((f_X4_seize n nt m k g).2.ti 0) (f_X4_seize n nt m k g).1 ∧ EQ n no nt (f_X3_seize n nt c k g).2 (f_X4_seize n nt m k g).2 ∧ BD n no nt t (f_X3_seize n nt c k g).2 := by
  have hn := b.1.1
  have hnt := b.1.2.2.1
  by_cases hk : inr k n
  · have hkc := fun e => (h.cl hn).mp e hk
    by_cases hg : inr g nt
    · have hgc := fun e => (h.th hnt).mp e hg
      have hi := re_inl (show n ≤ 600 by omega) hk
      have hj := re_inl (show nt ≤ 600 by omega) hg
      obtain ⟨a0, a1, a2, a3, a4, a5, a6, a7, a8, a9, r0, r1, r2, r3⟩ := h.er hi
      obtain ⟨eg1, eg2⟩ := h.1.2.2.2.2.2.2.2.2.2.2.2.2.2.2.2.2.1 _ hj
      by_cases h8 : c.ci (ix k) 8 = 0
      · by_cases h11 : c.ci (ix k) 11 = 2
        · by_cases hz : c.gi (ix g) 1 = 0
          · obtain ⟨E1, B1, es⟩ := re_thing h b hj hz
            have bc := b.at hi
            have bc' := bc
            obtain ⟨b0, b1, b2, b3, b4, b5, b6, b7, b8, b9, b10, b11, b12, b13, b14⟩ := bc
            have hty := b.2.1
            have hg6 := gB_le (show ix (c.ti 3) ≤ 60 by rw [re_ix]; omega)
            have hsz : szd c.gi nt + 1 ≤ 10 := by
              have := szd_le (g := (c.pgi (ix g) 1 1).gi) nt
              omega
            have hWb := b.2.2.2.2.2.2.2.2.2.2.2 _ hj
            have hix : ix (c.ti 3) ≤ 60 := by rw [re_ix]; omega
            generalize hW : (c.gi (ix g) 0).toInt64 = W
            have hWi : W.toInt = (c.gi (ix g) 0).toInt := by rw [← hW, re_w]
            obtain ⟨F, hF⟩ : ∃ F : Int64, F = if c.cj (ix k) 9 ≤ W then c.cj (ix k) 9 else W := ⟨_, rfl⟩
            obtain ⟨S, hS⟩ : ∃ S : Int64, S = if c.cj (ix k) 5 ≤ W - F then c.cj (ix k) 5 else W - F := ⟨_, rfl⟩
            obtain ⟨m1, m2, m3, m4, m5, m6⟩ := re_min (W := W) (by omega) b9.2.1 b9.1 (by omega) hF hS
            have eM := re_seizeM (n := n) (nt := nt) hkc hgc (a7.trans h8) (a8.trans h11) (eg2.trans hz) (W := W) (F := F) (S := S) (by rw [eg1]; exact hW) (by rw [r1]; exact hF) (by rw [r0]; exact hS)
            rw [eM]
            unfold f_X3_seize
            rw [if_pos hk, if_pos hg, if_neg (fun e => (re_open.mp e) h8), if_pos h11, if_pos hz, hW]
            have eo : i_X0_owed c (ix k) = c.cj (ix k) 5 + c.cj (ix k) 9 := rfl
            rw [eo, m1]
            obtain ⟨p1, p2, p3, p4, p5, p6, p7, p8, p9⟩ := re_recvG (c := c.pgi (ix g) 1 1) (i := ix k) (x := F + S) (F := F) m2 (by show (c.ci (ix k) 17).toInt < 70; omega)
            have eS : F + S - F = S := by grind
            rw [eS] at p4
            have eg0 : ((f_X0_receive (c.pgi (ix g) 1 1) (ix k) (F + S)).gi (ix g) 0).toInt64 = W := by
              rw [p1.2.2.2.2.2]
              show (up2 c.gi (ix g) 1 1 (ix g) 0).toInt64 = W
              rw [re_upk (by decide)]; exact hW
            rw [eg0, p2]
            have eW : W - (F + S) = W - F - S := by grind
            rw [eW]
            generalize f_X0_receive (c.pgi (ix g) 1 1) (ix k) (F + S) = c2 at *
            have fc3 : Fc (ix k) (c.pgi (ix g) 1 1) (c2.ptj 4 (c.tj 4 + (W - F - S))) := p1.p4
            have fm3 : Fm (ix k) ((m.pti 0 0).pai 33 (ix g) 1) (ZM m (ix k) (ix g) F S W) := by
              unfold ZM
              exact (((Fm.rf.paj (by decide) (by decide)).paj (by decide) (by decide)).paj (by decide) (by decide)).p2
            have z9 : (ZM m (ix k) (ix g) F S W).aj 17 (ix k) = c.cj (ix k) 9 - F := by
              rw [← r1]
              show up2 (up2 (up2 m.aj 17 (ix k) (m.aj 17 (ix k) - F)) 10 (ix k) (m.aj 10 (ix k) - S)) 19 (ix k) (m.aj 19 (ix k) + (F + S)) 17 (ix k) = _
              rw [re_up (by decide), re_up (by decide), re_up1]
            have z5 : (ZM m (ix k) (ix g) F S W).aj 10 (ix k) = c.cj (ix k) 5 - S := by
              rw [← r0]
              show up2 (up2 (up2 m.aj 17 (ix k) (m.aj 17 (ix k) - F)) 10 (ix k) (m.aj 10 (ix k) - S)) 19 (ix k) (m.aj 19 (ix k) + (F + S)) 10 (ix k) = _
              rw [re_up (by decide), re_up1]
            have z15 : (ZM m (ix k) (ix g) F S W).aj 19 (ix k) = c.cj (ix k) 15 + (F + S) := by
              rw [← r3]
              show up2 (up2 (up2 m.aj 17 (ix k) (m.aj 17 (ix k) - F)) 10 (ix k) (m.aj 10 (ix k) - S)) 19 (ix k) (m.aj 19 (ix k) + (F + S)) 19 (ix k) = _
              rw [re_up1]
            have z10 : (ZM m (ix k) (ix g) F S W).aj 18 (ix k) = c.cj (ix k) 10 := by
              rw [← r2]
              show up2 (up2 (up2 m.aj 17 (ix k) (m.aj 17 (ix k) - F)) 10 (ix k) (m.aj 10 (ix k) - S)) 19 (ix k) (m.aj 19 (ix k) + (F + S)) 18 (ix k) = _
              rw [re_up (by decide), re_up (by decide), re_up (by decide)]
            have zi : ∀ f, f ≠ 33 → (ZM m (ix k) (ix g) F S W).ai f (ix k) = m.ai f (ix k) := fun f hf => by
              show up2 m.ai 33 (ix g) 1 f (ix k) = _
              rw [re_up hf]
            have z2 : (ZM m (ix k) (ix g) F S W).tj 2 = c.tj 4 + (W - F - S) := by
              rw [← h.1.2.2.2.2.1]
              show (if 2 = 2 then m.tj 2 + (W - F - S) else m.tj 2) = _
              exact if_pos rfl
            have z0 : (ZM m (ix k) (ix g) F S W).ti 0 = 0 := rfl
            have c4 : (c2.ptj 4 (c.tj 4 + (W - F - S))).tj 4 = c.tj 4 + (W - F - S) := h_t1
            have c17 : c2.ci (ix k) 17 = c.ci (ix k) 17 + 1 := p7
            have ci : ∀ q, q ≠ 17 → c2.ci (ix k) q = c.ci (ix k) q := p8
            have c10 : c2.cj (ix k) 10 = c.cj (ix k) 10 := p6 10 (by decide) (by decide) (by decide)
            have c13 : c2.cj (ix k) 13 = c.cj (ix k) 13 := p6 13 (by decide) (by decide) (by decide)
            have c14 : c2.cj (ix k) 14 = c.cj (ix k) 14 := p6 14 (by decide) (by decide) (by decide)
            have c9 : c2.cj (ix k) 9 = c.cj (ix k) 9 - F := p3
            have c5 : c2.cj (ix k) 5 = c.cj (ix k) 5 - S := p4
            have c15 : c2.cj (ix k) 15 = c.cj (ix k) 15 + (F + S) := p5
            have c16 : c2.pay (ix k) = (fun j => if j = ix (c.ci (ix k) 17) then F + S else c.pay (ix k) j) := p9
            have eow : i_X0_owed (c2.ptj 4 (c.tj 4 + (W - F - S))) (ix k) = f_X4_owed (ZM m (ix k) (ix g) F S W) (ix k) := by
              unfold i_X0_owed f_X4_owed
              rw [z5, z9]
              show c2.cj (ix k) 5 + c2.cj (ix k) 9 = _
              rw [c5, c9]
            rw [eow]
            generalize ZM m (ix k) (ix g) F S W = m3' at *
            have hPA : 0 ≤ (c.cj (ix k) 5 - S).toInt ∧ 0 ≤ (c.cj (ix k) 9 - F).toInt ∧ (c.cj (ix k) 5 - S).toInt + (c.cj (ix k) 9 - F).toInt ≤ gB (ix (c.ti 3)) := ⟨m5, m3, by omega⟩
            by_cases hq : f_X4_owed m3' (ix k) = 0
            · rw [if_pos hq, if_pos hq]
              have fc5 := fc3.tr (h_ef (c := c2.ptj 4 (c.tj 4 + (W - F - S))) (i := ix k))
              have fm5 := fm3.tr (k_ef (m := m3') (i := ix k))
              refine ⟨CJ.ok ?_, ⟨E1.1.claim hi fc5 fm5 ?_ ?_, E1.2.claim fc5 fm5 ((h_e2 (by decide)).trans (ci 0 (by decide))) ?_ ((h_e4 (by decide)).trans c13) ((h_e4 (by decide)).trans c14)⟩, B1.claim fc5 (fun j _ => ?_) ?_⟩
              · exact z0
              · rw [k_e5, h_e5, z2, z10, c4]
                show _ = c.tj 4 + (W - F - S) + c2.cj (ix k) 10
                rw [c10]
              · unfold ER
                rw [k_e1 (by decide), k_e1 (by decide), k_e1 (by decide), k_e1 (by decide), k_e1 (by decide), k_e1 (by decide), k_e1 (by decide), k_e2, k_e1 (by decide), k_e1 (by decide), k_e4 (by decide), k_e4 (by decide), k_e3, k_e4 (by decide),
                  h_e2 (by decide), h_e2 (by decide), h_e2 (by decide), h_e2 (by decide), h_e2 (by decide), h_e2 (by decide), h_e2 (by decide), h_e1, h_e2 (by decide), h_e2 (by decide), h_e4 (by decide), h_e4 (by decide), h_e3, h_e4 (by decide)]
                rw [zi 8 (by decide), zi 9 (by decide), zi 13 (by decide), zi 14 (by decide), zi 15 (by decide), zi 11 (by decide), zi 12 (by decide), zi 20 (by decide), zi 21 (by decide), z5, z9, z15]
                show m.ai 8 (ix k) = c2.ci (ix k) 0 ∧ m.ai 9 (ix k) = c2.ci (ix k) 1 ∧ m.ai 13 (ix k) = c2.ci (ix k) 2 ∧ m.ai 14 (ix k) = c2.ci (ix k) 3 ∧ m.ai 15 (ix k) = c2.ci (ix k) 4 ∧ m.ai 11 (ix k) = c2.ci (ix k) 6 ∧ m.ai 12 (ix k) = c2.ci (ix k) 7 ∧ (1 : Int32) = 1 ∧ m.ai 20 (ix k) = c2.ci (ix k) 11 ∧ m.ai 21 (ix k) = c2.ci (ix k) 12 ∧ c.cj (ix k) 5 - S = c2.cj (ix k) 5 ∧ c.cj (ix k) 9 - F = c2.cj (ix k) 9 ∧ (0 : Int64) = 0 ∧ c.cj (ix k) 15 + (F + S) = c2.cj (ix k) 15
                rw [ci 0 (by decide), ci 1 (by decide), ci 2 (by decide), ci 3 (by decide), ci 4 (by decide), ci 6 (by decide), ci 7 (by decide), ci 11 (by decide), ci 12 (by decide)]
                exact ⟨a0, a1, a2, a3, a4, a5, a6, rfl, a8, a9, c5.symm, c9.symm, rfl, c15.symm⟩
              · rw [h_e1]
                show (1 : Int32) = 2 ↔ c.ci (ix k) 8 = 2
                rw [h8]; decide
              · show ix (c.ti 3) ≤ ix ((f_X3_close (c2.ptj 4 (c.tj 4 + (W - F - S))) (ix k)).ti 3)
                rw [fc5.1]; exact Nat.le_refl _
              · have e3 : ix ((f_X3_close (c2.ptj 4 (c.tj 4 + (W - F - S))) (ix k)).ti 3) = ix (c.ti 3) := by rw [fc5.1]
                rw [e3, es]
                refine bc'.pay (P := c.cj (ix k) 5 - S) (A := c.cj (ix k) 9 - F) (S := 0) (X := F + S) (by omega) (fun q h8 h17 => (h_e2 h8).trans (ci q h17)) (Or.inr (Or.inl h_e1)) ((h_e2 (by decide)).trans c17) ((h_e4 (by decide)).trans c5) ((h_e4 (by decide)).trans c9) h_e3 ((h_e4 (by decide)).trans c15) ((h_e4 (by decide)).trans c13) ((h_e4 (by decide)).trans c14) c16 (by omega) hPA ⟨Int.le_refl _, b10.1⟩
            · rw [if_neg hq, if_neg hq]
              refine ⟨CJ.ok z0, ⟨E1.1.claim hi fc3 fm3 (z2.trans c4.symm) ?_, E1.2.claim fc3 fm3 (ci 0 (by decide)) ?_ c13 c14⟩, B1.claim fc3 (fun j _ => ?_) ?_⟩
              · unfold ER
                rw [zi 8 (by decide), zi 9 (by decide), zi 13 (by decide), zi 14 (by decide), zi 15 (by decide), zi 11 (by decide), zi 12 (by decide), zi 16 (by decide), zi 20 (by decide), zi 21 (by decide), z5, z9, z10, z15]
                show m.ai 8 (ix k) = c2.ci (ix k) 0 ∧ m.ai 9 (ix k) = c2.ci (ix k) 1 ∧ m.ai 13 (ix k) = c2.ci (ix k) 2 ∧ m.ai 14 (ix k) = c2.ci (ix k) 3 ∧ m.ai 15 (ix k) = c2.ci (ix k) 4 ∧ m.ai 11 (ix k) = c2.ci (ix k) 6 ∧ m.ai 12 (ix k) = c2.ci (ix k) 7 ∧ m.ai 16 (ix k) = c2.ci (ix k) 8 ∧ m.ai 20 (ix k) = c2.ci (ix k) 11 ∧ m.ai 21 (ix k) = c2.ci (ix k) 12 ∧ c.cj (ix k) 5 - S = c2.cj (ix k) 5 ∧ c.cj (ix k) 9 - F = c2.cj (ix k) 9 ∧ c.cj (ix k) 10 = c2.cj (ix k) 10 ∧ c.cj (ix k) 15 + (F + S) = c2.cj (ix k) 15
                rw [ci 0 (by decide), ci 1 (by decide), ci 2 (by decide), ci 3 (by decide), ci 4 (by decide), ci 6 (by decide), ci 7 (by decide), ci 8 (by decide), ci 11 (by decide), ci 12 (by decide)]
                exact ⟨a0, a1, a2, a3, a4, a5, a6, a7, a8, a9, c5.symm, c9.symm, c10.symm, c15.symm⟩
              · show c2.ci (ix k) 8 = 2 ↔ c.ci (ix k) 8 = 2
                rw [ci 8 (by decide)]
              · show ix (c.ti 3) ≤ ix (c2.ti 3)
                rw [p1.1]; exact Nat.le_refl _
              · have e3 : ix ((c2.ptj 4 (c.tj 4 + (W - F - S))).ti 3) = ix (c.ti 3) := by rw [fc3.1]
                rw [e3, es]
                refine bc'.pay (P := c.cj (ix k) 5 - S) (A := c.cj (ix k) 9 - F) (S := c.cj (ix k) 10) (X := F + S) (by omega) (fun q _ h17 => ci q h17) (Or.inl ((ci 8 (by decide)).trans h8)) c17 c5 c9 c10 c15 c13 c14 c16 (by omega) hPA ⟨b10.1, Int.le_refl _⟩
          · unfold f_X3_seize f_X4_seize
            rw [if_pos hk, if_pos hg, if_neg (fun e => (re_open.mp e) h8), if_pos h11, if_neg hz, if_neg hkc, if_neg hgc, if_pos (a7.trans h8), if_pos (a8.trans h11), if_neg (fun e => hz (eg2.symm.trans e))]
            exact ⟨CJ.no 2 (by decide) rfl, h.p0, b⟩
        · unfold f_X3_seize f_X4_seize
          rw [if_pos hk, if_pos hg, if_neg (fun e => (re_open.mp e) h8), if_neg h11, if_neg hkc, if_neg hgc, if_pos (a7.trans h8), if_neg (fun e => h11 (a8.symm.trans e))]
          exact ⟨CJ.no 2 (by decide) rfl, h.p0, b⟩
      · unfold f_X3_seize f_X4_seize
        rw [if_pos hk, if_pos hg, if_pos (re_open.mpr h8), if_neg hkc, if_neg hgc, if_neg (fun e => h8 (a7.symm.trans e))]
        exact ⟨CJ.no 2 (by decide) rfl, h.p0, b⟩
    · unfold f_X3_seize f_X4_seize
      rw [if_pos hk, if_neg hg, if_neg hkc, if_pos ((h.th hnt).mpr hg)]
      exact ⟨CJ.no 1 (by decide) rfl, h.p0, b⟩
  · unfold f_X3_seize f_X4_seize
    rw [if_neg hk, if_pos ((h.cl hn).mpr hk)]
    exact ⟨CJ.no 1 (by decide) rfl, h.p0, b⟩
