/-! THE RELATION, 14: votes, offers, things -/
theorem q_vote {n no nt t : Nat} {c : CC} {m : MC} {k o z : Int32} (hz : z = 0 ∨ z = 1) (h : EQ n no nt c m) (b : BD n no nt t c) :
    CV [(3, 1), (2, 2)] (f_X3_vote n no c k o z).1 ((f_X4_vote n no m k o z).ti 0) ∧ EQ n no nt (f_X3_vote n no c k o z).2 (f_X4_vote n no m k o z) ∧ BD n no nt t (f_X3_vote n no c k o z).2 := by
  have hn := b.1.1
  have hno := b.1.2.1
  unfold f_X3_vote f_X4_vote
  by_cases hk : inr k n
  · rw [if_pos hk, if_neg (fun e => (h.cl hn).mp e hk)]
    by_cases ho : inr o no
    · have hi := re_inl (show n ≤ 600 by omega) hk
      have hj := re_inl (show no ≤ 600 by omega) ho
      rw [if_pos ho, if_neg (fun e => (h.of hno).mp e ho), re_vot (h.er hi)]
      by_cases hv : i_X0_isVoter c (ix k) = 0
      · rw [if_pos hv, if_pos hv]
        exact ⟨CV.no 2 (by decide) rfl, h.p0, b⟩
      · rw [if_neg hv, if_neg hv]
        have ek : nI (ix k) = k := re_nIix hk.1
        have key : ∀ (y : Int64) (v : Int32), (∀ i, i < 40 → f_X3_hasBit y (nI i) = if i = ix k then z else f_X3_hasBit (c.oj (ix o) 3) (nI i)) → (z = 0 ↔ v ≠ 1) →
            EQ n no nt (c.poj (ix o) 3 y) ((m.pti 0 0).pai 27 (40 * ix o + ix k) v) := by
          intro y v hy hv
          obtain ⟨⟨e7, e23, e31, s1, s2, s3, s4, s5, s6, s7, s8, s9, er, nr, eo, ev, eg, ng, eb, ea⟩, hs⟩ := h
          refine ⟨⟨e7, e23, e31, s1, s2, s3, s4, s5, s6, s7, s8, s9, er, nr, eo, fun j i hj12 hi40 => ?_, eg, ng, eb, ea⟩, hs.cg rfl rfl rfl rfl rfl⟩
          obtain ⟨v1, v2⟩ := ev j i hj12 hi40
          show (j < no → (f_X3_hasBit (up2 c.oj (ix o) 3 y j 3) (nI i) = 0 ↔ up2 m.ai 27 (40 * ix o + ix k) v 27 (40 * j + i) ≠ 1)) ∧ (no ≤ j ∨ n ≤ i → up2 m.ai 27 (40 * ix o + ix k) v 27 (40 * j + i) ≠ 1)
          have hat : up2 m.ai 27 (40 * ix o + ix k) v 27 (40 * j + i) = if 40 * j + i = 40 * ix o + ix k then v else m.ai 27 (40 * j + i) := by rw [re_ups]
          rw [hat]
          by_cases e : 40 * j + i = 40 * ix o + ix k
          · have ej : j = ix o := by omega
            have ei : i = ix k := by omega
            rw [if_pos e, ej, re_up1, hy i hi40, if_pos ei]
            refine ⟨fun _ => hv, fun hh => ?_⟩
            rcases hh with hh | hh <;> omega
          · rw [if_neg e]
            refine ⟨fun hjn => ?_, v2⟩
            by_cases ej : j = ix o
            · have ei : ¬ i = ix k := fun ei => e (by rw [ej, ei])
              rw [ej, re_up1, hy i hi40, if_neg ei, ← ej]; exact v1 hjn
            · rw [re_up ej]; exact v1 hjn
        have hi40 : ix k < 40 := by omega
        unfold f_X1_tell
        rcases hz with e | e
        · rw [if_pos e, if_pos e]
          refine ⟨CV.ok rfl, key _ 2 (fun i hi => ?_) ?_, b⟩
          · have := hb_an (y := c.oj (ix o) 3) hi hi40
            rw [ek] at this
            rw [this, e]
          · rw [e]; decide
        · have e0 : ¬ z = 0 := by rw [e]; decide
          rw [if_neg e0, if_neg e0]
          refine ⟨CV.ok rfl, key _ 1 (fun i hi => ?_) ?_, b⟩
          · have := hb_or (y := c.oj (ix o) 3) hi hi40
            rw [ek] at this
            rw [this, e]
          · rw [e]; decide
    · rw [if_neg ho, if_pos ((h.of hno).mpr ho)]
      exact ⟨CV.no 1 (by decide) rfl, h.p0, b⟩
  · rw [if_neg hk, if_pos ((h.cl hn).mpr hk)]
    exact ⟨CV.no 1 (by decide) rfl, h.p0, b⟩
theorem re_cnt {n : Nat} (hn : n < 600) : (nI (n + 1) - 1 : Int32) = nI n ∧ (nI n + 1 : Int32) = nI (n + 1) := by
  have l1 : (1 : Int32).toInt = 1 := rfl
  constructor
  · rw [re_ieq, re_isub (by rw [re_nI (by omega), l1]; omega) (by rw [re_nI (by omega), l1]; omega), re_nI (by omega), re_nI (by omega), l1]; omega
  · rw [re_ieq, re_iadd (by rw [re_nI (by omega), l1]; omega) (by rw [re_nI (by omega), l1]; omega), re_nI (by omega), re_nI (by omega), l1]; omega
theorem re_cut2 {n N : Nat} (hn : n ≤ N) (hN : N ≤ 600) {L : Int32} (hL : L = nI N) : (nI n < L ↔ n < N) ∧ (nI n = L ↔ n = N) := by
  rw [hL, re_ilt, re_nIinj (by omega) (by omega), re_nI (by omega), re_nI (by omega)]
  exact ⟨by omega, Iff.rfl⟩
theorem q_offer {n no nt t : Nat} {c : CC} {m : MC} {a q y : Int32} (h : EQ n no nt c m) (b : BD n no nt t c) :
    CI [(1, 1), (2, 2)] (f_X3_offer no c a q y).1 ((f_X4_offer no m a q y).2.ti 0) (f_X4_offer no m a q y).1 ∧ EQ n (f_X3_offer no c a q y).2.1 nt (f_X3_offer no c a q y).2.2 (f_X4_offer no m a q y).2 ∧ BD n (f_X3_offer no c a q y).2.1 nt t (f_X3_offer no c a q y).2.2 := by
  have hn := b.1.1
  have hno := b.1.2.1
  obtain ⟨k1, k2⟩ := re_cut2 hno (by decide) (show (12 : Int32) = nI 12 from rfl)
  unfold f_X3_offer f_X4_offer
  rw [h.1.2.1]
  by_cases h1 : rng a 0 99
  · rw [if_pos h1, if_neg (fun e => re_in.mp e h1)]
    by_cases h2 : rng q 0 1000
    · rw [if_pos h2, if_neg (fun e => re_in.mp e h2)]
      by_cases h3 : rng y 1 30
      · rw [if_pos h3, if_neg (fun e => re_in.mp e h3)]
        by_cases h4 : nI no < 12
        · have h12 := k1.mp h4
          have h5 : ¬ nI no = 12 := fun e => by have := k2.mp e; omega
          rw [if_pos h4, if_neg h5]
          obtain ⟨c1, c2⟩ := re_cnt (n := no) (by omega)
          rw [c2, c1]
          obtain ⟨⟨e7, e23, e31, s1, s2, s3, s4, s5, s6, s7, s8, s9, er, nr, eo, ev, eg, ng, eb, ea⟩, hs⟩ := h
          obtain ⟨b0, b1, b2, b3, b4, b5, b6, b7, b8, b9, b10, b11⟩ := b
          refine ⟨CI.ok rfl, ⟨⟨e7, rfl, e31, s1, s2, s3, s4, s5, s6, s7, s8, s9, er, nr, fun j hj => ?_, fun j i hj12 hi40 => ?_, eg, ng, eb, ea⟩, hs.cg rfl rfl rfl rfl rfl⟩, ⟨⟨b0.1, (show no + 1 ≤ 12 by omega), b0.2.2⟩, b1, b2, b3, b4, b5, b6, b7, b8, b9, fun j hj => ?_, b11⟩⟩
          · show up2 (up2 (up2 m.ai 24 no a) 25 no q) 26 no y 24 j = upr c.oi no (ofI a q y) j 0 ∧ up2 (up2 (up2 m.ai 24 no a) 25 no q) 26 no y 25 j = upr c.oi no (ofI a q y) j 1 ∧ up2 (up2 (up2 m.ai 24 no a) 25 no q) 26 no y 26 j = upr c.oi no (ofI a q y) j 2
            rw [re_up (f := up2 (up2 m.ai 24 no a) 25 no q) (show (24 : Nat) ≠ 26 by decide), re_up (f := up2 m.ai 24 no a) (show (24 : Nat) ≠ 25 by decide), re_up (f := up2 (up2 m.ai 24 no a) 25 no q) (show (25 : Nat) ≠ 26 by decide)]
            by_cases e : j = no
            · have e2 : upr c.oi no (ofI a q y) j = ofI a q y := by unfold upr; rw [if_pos e]
              rw [e2, e, re_up1, re_up1, re_up1]
              exact ⟨rfl, rfl, rfl⟩
            · obtain ⟨o1, o2, o3⟩ := eo j (by have : j < no + 1 := hj; omega)
              have e2 : upr c.oi no (ofI a q y) j = c.oi j := by unfold upr; rw [if_neg e]
              rw [e2]
              refine ⟨?_, ?_, ?_⟩
              · rw [re_upk e]; exact o1
              · rw [re_upk e, re_upk e]; exact o2
              · rw [re_upk e, re_upk e, re_upk e]; exact o3
          · obtain ⟨v1, v2⟩ := ev j i hj12 hi40
            show (j < no + 1 → (f_X3_hasBit (upr c.oj no (pJ (fun _ => 0) 3 0) j 3) (nI i) = 0 ↔ m.ai 27 (40 * j + i) ≠ 1)) ∧ (no + 1 ≤ j ∨ n ≤ i → m.ai 27 (40 * j + i) ≠ 1)
            refine ⟨fun hj => ?_, fun hh => v2 (by omega)⟩
            by_cases e : j = no
            · have e2 : upr c.oj no (pJ (fun _ => 0) 3 0) j 3 = 0 := by
                unfold upr; rw [if_pos e]; rfl
              rw [e2, hb_0 hi40]
              exact ⟨fun _ => v2 (Or.inl (by omega)), fun _ => rfl⟩
            · have e2 : upr c.oj no (pJ (fun _ => 0) 3 0) j = c.oj j := by unfold upr; rw [if_neg e]
              rw [e2]; exact v1 (by omega)
          · show (0 ≤ (upr c.oi no (ofI a q y) j 0).toInt ∧ (upr c.oi no (ofI a q y) j 0).toInt ≤ 99) ∧ (0 ≤ (upr c.oi no (ofI a q y) j 1).toInt ∧ (upr c.oi no (ofI a q y) j 1).toInt ≤ 1000) ∧ (1 ≤ (upr c.oi no (ofI a q y) j 2).toInt ∧ (upr c.oi no (ofI a q y) j 2).toInt ≤ 30)
            by_cases e : j = no
            · have e2 : upr c.oi no (ofI a q y) j = ofI a q y := by unfold upr; rw [if_pos e]
              rw [e2]
              exact ⟨rng_b h1, rng_b h2, rng_b h3⟩
            · have e2 : upr c.oi no (ofI a q y) j = c.oi j := by unfold upr; rw [if_neg e]
              rw [e2]; exact b10 j (by have : j < no + 1 := hj; omega)
        · have h5 : nI no = 12 := k2.mpr (by have : ¬ no < 12 := fun e => h4 (k1.mpr e); omega)
          rw [if_neg h4, if_pos h5]
          exact ⟨CI.no 2 (by decide) rfl, h.p0, b⟩
      · rw [if_neg h3, if_pos (re_in.mpr h3)]
        exact ⟨CI.no 1 (by decide) rfl, h.p0, b⟩
    · rw [if_neg h2, if_pos (re_in.mpr h2)]
      exact ⟨CI.no 1 (by decide) rfl, h.p0, b⟩
  · rw [if_neg h1, if_pos (re_in.mpr h1)]
    exact ⟨CI.no 1 (by decide) rfl, h.p0, b⟩
theorem szd_ext {g g' : Nat → Nat → Int32} : ∀ {k : Nat}, (∀ j, j < k → g' j 1 = g j 1) → szd g' k = szd g k
  | 0, _ => rfl
  | k + 1, h => by unfold szd; rw [szd_ext fun j hj => h j (by omega), h k (by omega)]
theorem q_thing {n no nt t : Nat} {c : CC} {m : MC} {v : Int32} (h : EQ n no nt c m) (b : BD n no nt t c) :
    CI [(1, 1), (2, 2)] (f_X3_thing nt c v).1 ((f_X4_thing nt m v).2.ti 0) (f_X4_thing nt m v).1 ∧ EQ n no (f_X3_thing nt c v).2.1 (f_X3_thing nt c v).2.2 (f_X4_thing nt m v).2 ∧ BD n no (f_X3_thing nt c v).2.1 t (f_X3_thing nt c v).2.2 := by
  have hn := b.1.1
  have hnt := b.1.2.2.1
  obtain ⟨k1, k2⟩ := re_cut2 hnt (by decide) (show (10 : Int32) = nI 10 from rfl)
  unfold f_X3_thing f_X4_thing
  rw [h.1.2.2.1]
  by_cases h1 : rng v 1 1000000
  · rw [if_pos h1, if_neg (fun e => re_in.mp e h1)]
    by_cases h4 : nI nt < 10
    · have h12 := k1.mp h4
      have h5 : ¬ nI nt = 10 := fun e => by have := k2.mp e; omega
      rw [if_pos h4, if_neg h5]
      obtain ⟨c1, c2⟩ := re_cnt (n := nt) (by omega)
      rw [c2, c1]
      obtain ⟨⟨e7, e23, e31, s1, s2, s3, s4, s5, s6, s7, s8, s9, er, nr, eo, ev, eg, ng, eb, ea⟩, hs⟩ := h
      obtain ⟨b0, b1, b2, b3, b4, b5, b6, b7, b8, b9, b10, b11⟩ := b
      have n33 := ng nt (Nat.le_refl _) h12
      have up : ∀ j, ¬ j = nt → upr c.gi nt (thI v) j = c.gi j := fun j e => by unfold upr; rw [if_neg e]
      have un : upr c.gi nt (thI v) nt = thI v := by unfold upr; rw [if_pos rfl]
      have es : szd (upr c.gi nt (thI v)) (nt + 1) = szd c.gi nt := by
        show szd (upr c.gi nt (thI v)) nt + (if upr c.gi nt (thI v) nt 1 = 0 then 0 else 1) = szd c.gi nt
        rw [un, szd_ext (g := c.gi) fun j hj => by rw [up j (by omega)]]
        rw [if_pos (show thI v 1 = 0 from rfl), Nat.add_zero]
      refine ⟨CI.ok rfl, ⟨⟨e7, e23, rfl, s1, s2, s3, s4, s5, s6, s7, s8, s9, er, nr, eo, ev, fun j hj => ?_, fun j hj hj10 => ng j (by have : nt + 1 ≤ j := hj; omega) hj10, eb, ea⟩, hs.cg rfl rfl rfl rfl rfl⟩, ⟨⟨b0.1, b0.2.1, (show nt + 1 ≤ 10 by omega), b0.2.2.2⟩, b1, b2, b3, b4, b5, b6, b7, b8, fun i hi => ?_, b10, fun j hj => ?_⟩⟩
      · show up2 m.ai 32 nt v 32 j = upr c.gi nt (thI v) j 0 ∧ m.ai 33 j = upr c.gi nt (thI v) j 1
        by_cases e : j = nt
        · rw [e, un, n33, re_up1]; exact ⟨rfl, rfl⟩
        · obtain ⟨g1, g2⟩ := eg j (by have : j < nt + 1 := hj; omega)
          rw [up j e, g2, re_upk e]; exact ⟨g1, rfl⟩
      · show BC t (szd (upr c.gi nt (thI v)) (nt + 1)) _ _ _ _ _
        rw [es]; exact b9 i hi
      · show 1 ≤ (upr c.gi nt (thI v) j 0).toInt ∧ (upr c.gi nt (thI v) j 0).toInt ≤ 1000000
        by_cases e : j = nt
        · rw [e, un]; exact rng_b h1
        · rw [up j e]; exact b11 j (by have : j < nt + 1 := hj; omega)
    · have h5 : nI nt = 10 := k2.mpr (by have : ¬ nt < 10 := fun e => h4 (k1.mpr e); omega)
      rw [if_neg h4, if_pos h5]
      exact ⟨CI.no 2 (by decide) rfl, h.p0, b⟩
  · rw [if_neg h1, if_pos (re_in.mpr h1)]
    exact ⟨CI.no 1 (by decide) rfl, h.p0, b⟩

theorem szd_put {g : Nat → Nat → Int32} {j : Nat} (h0 : g j 1 = 0) : ∀ {k : Nat}, j < k → szd (up2 g j 1 1) k = szd g k + 1
  | 0, h => absurd h (Nat.not_lt_zero _)
  | k + 1, h => by
    show szd (up2 g j 1 1) k + (if up2 g j 1 1 k 1 = 0 then 0 else 1) = szd g k + (if g k 1 = 0 then 0 else 1) + 1
    by_cases e : k = j
    · rw [e, re_up1, h0, szd_ext (g := g) fun i hi => by rw [re_up (by omega)]]
      rw [if_neg (by decide), if_pos rfl]
    · rw [szd_put h0 (by omega), re_up e]; omega
theorem re_min {W A P : Int64} (hW : 0 ≤ W.toInt) (hA : 0 ≤ A.toInt) (hP : 0 ≤ P.toInt) (hPA : P.toInt + A.toInt ≤ 400000000) {F S : Int64} (hF : F = if A ≤ W then A else W) (hS : S = if P ≤ W - F then P else W - F) :
    f_J9_min_f86c9 W (P + A) = F + S ∧ f_J9_min_f86c9 (F + S) A = F ∧ 0 ≤ (A - F).toInt ∧ (A - F).toInt ≤ A.toInt ∧ 0 ≤ (P - S).toInt ∧ (P - S).toInt ≤ P.toInt := by
  have hW2 : W.toInt < 9223372036854775808 := Int64.toInt_lt W
  have f0 : 0 ≤ F.toInt ∧ F.toInt ≤ A.toInt ∧ F.toInt ≤ W.toInt ∧ (F.toInt = A.toInt ∨ F.toInt = W.toInt) := by
    rw [hF]; split
    · rename_i e; rw [re_le] at e; omega
    · rename_i e; rw [re_le] at e; omega
  have eWF : (W - F).toInt = W.toInt - F.toInt := re_sub (by omega) (by omega)
  have s0 : 0 ≤ S.toInt ∧ S.toInt ≤ P.toInt ∧ S.toInt ≤ W.toInt - F.toInt ∧ (S.toInt = P.toInt ∨ S.toInt = W.toInt - F.toInt) := by
    rw [hS]; split
    · rename_i e; rw [re_le, eWF] at e; omega
    · rename_i e; rw [re_le, eWF] at e; rw [eWF]; omega
  have eFS : (F + S).toInt = F.toInt + S.toInt := re_add (by omega) (by omega)
  have ePA : (P + A).toInt = P.toInt + A.toInt := re_add (by omega) (by omega)
  have eA : (A - F).toInt = A.toInt - F.toInt := re_sub (by omega) (by omega)
  have eP : (P - S).toInt = P.toInt - S.toInt := re_sub (by omega) (by omega)
  refine ⟨?_, ?_, by omega, by omega, by omega, by omega⟩
  · unfold f_J9_min_f86c9
    split
    · rename_i e; rw [re_lt, ePA] at e; rw [re_eq, ePA, eFS]; omega
    · rename_i e; rw [re_lt, ePA] at e; rw [re_eq, eFS]; omega
  · unfold f_J9_min_f86c9
    split
    · rename_i e; rw [re_lt, eFS] at e; rw [re_eq]; omega
    · rename_i e; rw [re_lt, eFS] at e; rw [re_eq, eFS]; omega
/-- what a seizure makes of the model -/
def ZM (m : MC) (i g : Nat) (F S W : Int64) : MC := (((((m.pti 0 0).pai 33 g 1).paj 17 i (m.aj 17 i - F)).paj 10 i (m.aj 10 i - S)).paj 19 i (m.aj 19 i + (F + S))).ptj 2 (m.tj 2 + ((W - F) - S))
theorem re_seizeM {n nt : Nat} {m : MC} {k g : Int32} (hc : ¬ f_X4_isClaim m k = 0) (hg : ¬ f_X4_isIn g 0 (m.ti 31 - 1) = 0) (h16 : m.ai 16 (ix k) = 0) (h20 : m.ai 20 (ix k) = 2) (h33 : m.ai 33 (ix g) = 0) {W F S : Int64}
    (hW : (m.ai 32 (ix g)).toInt64 = W) (hF : F = if m.aj 17 (ix k) ≤ W then m.aj 17 (ix k) else W) (hS : S = if m.aj 10 (ix k) ≤ W - F then m.aj 10 (ix k) else W - F) :
    f_X4_seize n nt m k g = if f_X4_owed (ZM m (ix k) (ix g) F S W) (ix k) = 0 then (F + S, f_X4_ends (ZM m (ix k) (ix g) F S W) (ix k)) else (F + S, ZM m (ix k) (ix g) F S W) := by
  unfold f_X4_seize ZM
  rw [if_neg hc, if_neg hg, if_pos h16, if_pos h20, if_pos h33, hW]
  by_cases h1 : m.aj 17 (ix k) ≤ W
  · rw [if_pos h1] at hF
    rw [if_pos h1, ← hF]
    by_cases h2 : m.aj 10 (ix k) ≤ W - F
    · rw [if_pos h2] at hS
      rw [if_pos h2, ← hS]
    · rw [if_neg h2] at hS
      rw [if_neg h2, ← hS]
  · rw [if_neg h1] at hF
    rw [if_neg h1, ← hF]
    rw [← hF] at hS
    by_cases h2 : m.aj 10 (ix k) ≤ F - F
    · rw [if_pos h2] at hS
      rw [if_pos h2, ← hS]
    · rw [if_neg h2] at hS
      rw [if_neg h2, ← hS]
