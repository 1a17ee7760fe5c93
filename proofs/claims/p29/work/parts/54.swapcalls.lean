/-! THE RELATION, 17: swaps -/
def swK (m : MC) (i : Nat) : Nat := ix (m.ai 8 i)
def swM (m : MC) (i : Nat) : MC := (m.paj 29 (ix (m.ai 8 i)) ((m.aj 29 (ix (m.ai 8 i))) + (f_X4_valueOf m i (m.ti 6)))).pai 28 (ix (m.ai 8 i)) 1
def swA (n : Nat) (m : MC) (i j : Nat) : MC := (f_X4_adds n (swM m i) (m.ai 8 i) (m.ai 9 i) (f_X4_cutOf (swM m i) i j) (m.ai 25 j) (m.ai 26 j)).2
def swB (n : Nat) (m : MC) (i j : Nat) : MC := (((((((swA n m i j).pai 13 n ((swA n m i j).ai 13 i)).pai 14 n ((swA n m i j).ai 14 i)).pai 15 n ((swA n m i j).ai 15 i)).paj 18 n ((swA n m i j).aj 18 i)).paj 18 i 0).pai 21 n (nI i)).pai 16 i 2
theorem sw_eq {n : Nat} {m : MC} {i j : Nat} : f_X4_swaps n m i j = (m.ti 7, (swB n m i j).paj 30 (ix ((swA n m i j).ai 8 i)) ((swA n m i j).aj 30 (ix ((swA n m i j).ai 8 i)) + f_X4_valueOf (swB n m i j) n ((swA n m i j).ti 6))) := rfl
theorem swA_aiE {n : Nat} {m : MC} {i j : Nat} : (swA n m i j).ai = up2 (up2 (up2 (up2 (up2 (up2 (up2 m.ai 28 (swK m i) 1) 8 n (m.ai 8 i)) 9 n (m.ai 9 i)) 11 n (m.ai 25 j)) 12 n (m.ti 1 + m.ai 26 j)) 14 n (-1)) 21 n (-1) := rfl
theorem swA_ai {n : Nat} {m : MC} {i j f q : Nat} (hq : q ≠ n) (hf : f ≠ 28) : (swA n m i j).ai f q = m.ai f q := by
  rw [swA_aiE]
  rw [re_upk hq, re_upk hq, re_upk hq, re_upk hq, re_upk hq, re_upk hq, re_up hf]
theorem swA_n {n : Nat} {m : MC} {i j : Nat} : (swA n m i j).ai 8 n = m.ai 8 i ∧ (swA n m i j).ai 9 n = m.ai 9 i ∧ (swA n m i j).ai 11 n = m.ai 25 j ∧ (swA n m i j).ai 12 n = m.ti 1 + m.ai 26 j ∧ (swA n m i j).ai 16 n = m.ai 16 n ∧ (swA n m i j).ai 20 n = m.ai 20 n := by
  refine ⟨?_, ?_, ?_, ?_, ?_, ?_⟩
  · rw [swA_aiE]
    rw [re_up (by decide), re_up (by decide), re_up (by decide), re_up (by decide), re_up (by decide), re_up1]
  · rw [swA_aiE]
    rw [re_up (by decide), re_up (by decide), re_up (by decide), re_up (by decide), re_up1]
  · rw [swA_aiE]
    rw [re_up (by decide), re_up (by decide), re_up (by decide), re_up1]
  · rw [swA_aiE]
    rw [re_up (by decide), re_up (by decide), re_up1]
  · rw [swA_aiE]
    rw [re_up (by decide), re_up (by decide), re_up (by decide), re_up (by decide), re_up (by decide), re_up (by decide), re_up (by decide)]
  · rw [swA_aiE]
    rw [re_up (by decide), re_up (by decide), re_up (by decide), re_up (by decide), re_up (by decide), re_up (by decide), re_up (by decide)]
theorem swA_hi {n : Nat} {m : MC} {i j f : Nat} (hf : 21 < f) : (swA n m i j).ai f = up2 m.ai 28 (swK m i) 1 f := by
  rw [swA_aiE]
  rw [re_up (by omega), re_up (by omega), re_up (by omega), re_up (by omega), re_up (by omega), re_up (by omega)]
theorem swA_aj {n : Nat} {m : MC} {i j : Nat} : (swA n m i j).aj = up2 (up2 m.aj 29 (swK m i) (m.aj 29 (swK m i) + f_X4_valueOf m i (m.ti 6))) 10 n (f_X4_cutOf m i j) := rfl
theorem swB_ai {n : Nat} {m : MC} {i j : Nat} : (swB n m i j).ai = up2 (up2 (up2 (up2 (up2 (swA n m i j).ai 13 n ((swA n m i j).ai 13 i)) 14 n ((swA n m i j).ai 14 i)) 15 n ((swA n m i j).ai 15 i)) 21 n (nI i)) 16 i 2 := rfl
theorem swB_aj {n : Nat} {m : MC} {i j : Nat} : (swB n m i j).aj = up2 (up2 (swA n m i j).aj 18 n ((swA n m i j).aj 18 i)) 18 i 0 := rfl
/-- the model's swap, seen from each place -/
theorem sw_M {n : Nat} {m : MC} {i j : Nat} (hi : i < n) :
    (∀ k, k ≠ 7 → (f_X4_swaps n m i j).2.ti k = m.ti k) ∧ (f_X4_swaps n m i j).2.ti 7 = m.ti 7 + 1 ∧ (f_X4_swaps n m i j).2.tj = m.tj ∧
    (∀ f q, (f < 8 ∨ 21 < f) → f ≠ 28 → (f_X4_swaps n m i j).2.ai f q = m.ai f q) ∧ (∀ f q, f ≤ 21 → q ≠ n → q ≠ i → (f_X4_swaps n m i j).2.ai f q = m.ai f q ∧ (f_X4_swaps n m i j).2.aj f q = m.aj f q) ∧
    ((∀ f, f ≤ 21 → f ≠ 16 → (f_X4_swaps n m i j).2.ai f i = m.ai f i) ∧ (f_X4_swaps n m i j).2.ai 16 i = 2 ∧ (∀ f, f ≤ 21 → f ≠ 18 → (f_X4_swaps n m i j).2.aj f i = m.aj f i) ∧ (f_X4_swaps n m i j).2.aj 18 i = 0) ∧
    (∀ f, f = 8 ∨ f = 9 ∨ f = 13 ∨ f = 14 ∨ f = 15 → (f_X4_swaps n m i j).2.ai f n = m.ai f i) ∧ (f_X4_swaps n m i j).2.ai 11 n = m.ai 25 j ∧ (f_X4_swaps n m i j).2.ai 12 n = m.ti 1 + m.ai 26 j ∧
    ((f_X4_swaps n m i j).2.ai 16 n = m.ai 16 n ∧ (f_X4_swaps n m i j).2.ai 20 n = m.ai 20 n ∧ (f_X4_swaps n m i j).2.ai 21 n = nI i) ∧
    ((f_X4_swaps n m i j).2.aj 10 n = f_X4_cutOf m i j ∧ (f_X4_swaps n m i j).2.aj 17 n = m.aj 17 n ∧ (f_X4_swaps n m i j).2.aj 18 n = m.aj 18 i ∧ (f_X4_swaps n m i j).2.aj 19 n = m.aj 19 n) ∧
    (∀ q, (f_X4_swaps n m i j).2.ai 28 q = if q = swK m i then 1 else m.ai 28 q) ∧ (∀ q, (f_X4_swaps n m i j).2.aj 29 q = if q = swK m i then m.aj 29 q + f_X4_valueOf m i (m.ti 6) else m.aj 29 q) ∧
    (∀ q, (f_X4_swaps n m i j).2.aj 30 q = if q = swK m i then m.aj 30 q + f_X4_valueOf (swB n m i j) n (m.ti 6) else m.aj 30 q) := by
  have hin : i ≠ n := by omega
  have e8 : ix ((swA n m i j).ai 8 i) = swK m i := by rw [swA_ai hin (by decide)]; rfl
  rw [sw_eq, e8]
  obtain ⟨n8, n9, n11, n12, n16, n20⟩ := swA_n (n := n) (m := m) (i := i) (j := j)
  have aiE : ∀ f q, ((swB n m i j).paj 30 (swK m i) ((swA n m i j).aj 30 (swK m i) + f_X4_valueOf (swB n m i j) n ((swA n m i j).ti 6))).ai f q = up2 (up2 (up2 (up2 (up2 (swA n m i j).ai 13 n ((swA n m i j).ai 13 i)) 14 n ((swA n m i j).ai 14 i)) 15 n ((swA n m i j).ai 15 i)) 21 n (nI i)) 16 i 2 f q := fun _ _ => rfl
  have ajE : ∀ f q, f ≠ 30 → ((swB n m i j).paj 30 (swK m i) ((swA n m i j).aj 30 (swK m i) + f_X4_valueOf (swB n m i j) n ((swA n m i j).ti 6))).aj f q = up2 (up2 (up2 (up2 m.aj 29 (swK m i) (m.aj 29 (swK m i) + f_X4_valueOf m i (m.ti 6))) 10 n (f_X4_cutOf m i j)) 18 n (m.aj 18 i)) 18 i 0 f q := fun f q hf => by
    show up2 (swB n m i j).aj 30 (swK m i) _ f q = _
    rw [re_up hf, swB_aj, swA_aj, re_up (f := up2 m.aj 29 _ _) (show (18 : Nat) ≠ 10 by decide), re_up (f := m.aj) (show (18 : Nat) ≠ 29 by decide)]
  refine ⟨fun k hk => ?_, rfl, rfl, fun f q hf h28 => ?_, fun f q hf hn hi' => ⟨?_, ?_⟩, ⟨fun f hf h16 => ?_, ?_, fun f hf h18 => ?_, ?_⟩, fun f hf => ?_, ?_, ?_, ⟨?_, ?_, ?_⟩, ⟨?_, ?_, ?_, ?_⟩, fun q => ?_, fun q => ?_, fun q => ?_⟩
  · show (if k = 7 then _ else m.ti k) = _
    rw [if_neg hk]
  · rw [aiE, re_up (by omega), re_up (by omega), re_up (by omega), re_up (by omega), re_up (by omega)]
    rw [swA_aiE]
    rw [re_up (by omega), re_up (by omega), re_up (by omega), re_up (by omega), re_up (by omega), re_up (by omega), re_up h28]
  · rw [aiE, re_upk hi', re_upk hn, re_upk hn, re_upk hn, re_upk hn, swA_ai hn (by omega)]
  · rw [ajE f q (by omega), re_upk hi', re_upk hn, re_upk hn, re_up (by omega)]
  · rw [aiE, re_up h16, re_upk hin, re_upk hin, re_upk hin, re_upk hin, swA_ai hin (by omega)]
  · rw [aiE, re_up1]
  · rw [ajE f i (by omega), re_up h18, re_up h18, re_upk hin, re_up (by omega)]
  · rw [ajE 18 i (by decide), re_up1]
  · rcases hf with e | e | e | e | e
    · subst e; rw [aiE, re_up (by decide), re_up (by decide), re_up (by decide), re_up (by decide), re_up (by decide)]; exact n8
    · subst e; rw [aiE, re_up (by decide), re_up (by decide), re_up (by decide), re_up (by decide), re_up (by decide)]; exact n9
    · subst e; rw [aiE, re_up (by decide), re_up (by decide), re_up (by decide), re_up (by decide), re_up1]; exact swA_ai hin (by decide)
    · subst e; rw [aiE, re_up (by decide), re_up (by decide), re_up (by decide), re_up1]; exact swA_ai hin (by decide)
    · subst e; rw [aiE, re_up (by decide), re_up (by decide), re_up1]; exact swA_ai hin (by decide)
  · rw [aiE, re_up (by decide), re_up (by decide), re_up (by decide), re_up (by decide), re_up (by decide)]; exact n11
  · rw [aiE, re_up (by decide), re_up (by decide), re_up (by decide), re_up (by decide), re_up (by decide)]; exact n12
  · rw [aiE, re_upk (Ne.symm hin), re_up (by decide), re_up (by decide), re_up (by decide), re_up (by decide)]; exact n16
  · rw [aiE, re_up (by decide), re_up (by decide), re_up (by decide), re_up (by decide), re_up (by decide)]; exact n20
  · rw [aiE, re_up (by decide), re_up1]
  · rw [ajE 10 n (by decide), re_up (by decide), re_up (by decide), re_up1]
  · rw [ajE 17 n (by decide), re_up (by decide), re_up (by decide), re_up (by decide), re_up (by decide)]
  · rw [ajE 18 n (by decide), re_upk (Ne.symm hin), re_up1]
  · rw [ajE 19 n (by decide), re_up (by decide), re_up (by decide), re_up (by decide), re_up (by decide)]
  · rw [aiE, re_up (by decide), re_up (by decide), re_up (by decide), re_up (by decide), re_up (by decide), swA_hi (by decide), re_ups]
  · rw [ajE 29 q (by decide), re_up (by decide), re_up (by decide), re_up (by decide), re_ups]
    by_cases e : q = swK m i
    · rw [if_pos e, e]; exact if_pos rfl
    · rw [if_neg e]; exact if_neg e
  · show up2 (swB n m i j).aj 30 (swK m i) _ 30 q = _
    rw [re_ups]
    have e30 : ∀ q, (swB n m i j).aj 30 q = m.aj 30 q := fun q => by
      rw [swB_aj, re_up (by decide), re_up (by decide), swA_aj, re_up (by decide), re_up (by decide)]
    have a30 : (swA n m i j).aj 30 (swK m i) = m.aj 30 (swK m i) := by rw [swA_aj, re_up (by decide), re_up (by decide)]
    by_cases e : q = swK m i
    · rw [if_pos e, e]
      refine (if_pos rfl).trans ?_
      rw [a30]; rfl
    · rw [if_neg e]
      exact (if_neg e).trans (e30 q)
