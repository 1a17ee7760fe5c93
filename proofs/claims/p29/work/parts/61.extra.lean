/-! THE LAW, 3: what else holds between calls -/
/-- of one claim's row, in the year yr -/
def XC (yr : Int) (x : Nat → Int32) (z : Nat → Int64) : Prop :=
  (x 8 ≠ 0 → z 10 = 0) ∧ (x 1 = 0 → z 9 = 0) ∧ (x 8 = 0 → (x 7).toInt ≤ yr → z 5 = 0) ∧ (z 14).toInt ≤ 270 * (z 13).toInt + 2040
def XS (n : Nat) (c : CC) : Prop := (0 ≤ (c.ti 13).toInt ∧ (c.ti 13).toInt ≤ 10) ∧ ∀ i, i < n → XC (c.ti 3).toInt (c.ci i) (c.cj i)
def IV (n no nt t : Nat) (c : CC) : Prop := (∃ m : MC, EQ n no nt c m ∧ BD n no nt t c) ∧ XS n c
theorem IV.b {n no nt t : Nat} {c : CC} (h : IV n no nt t c) : BD n no nt t c := by
  obtain ⟨⟨m, _, b⟩, _⟩ := h; exact b
theorem IV.up {n no nt t : Nat} {c : CC} (h : IV n no nt t c) (ht : t < 600) : IV n no nt (t + 1) c := by
  obtain ⟨⟨m, e, b⟩, x⟩ := h; exact ⟨⟨m, e, BD.up b ht⟩, x⟩
/-- what lies aside and what was paid, of the first k claims -/
def sA (c : CC) : Nat → Int64
  | 0 => 0
  | k + 1 => sA c k + (c.cj k 10 + c.cj k 15)
def sP (c : CC) : Nat → Int64
  | 0 => 0
  | k + 1 => sP c k + c.cj k 15
theorem sA_ext {c c' : CC} : ∀ {k : Nat}, (∀ i, i < k → c'.cj i 10 = c.cj i 10 ∧ c'.cj i 15 = c.cj i 15) → sA c' k = sA c k
  | 0, _ => rfl
  | k + 1, h => by unfold sA; rw [sA_ext fun i hi => h i (by omega), (h k (by omega)).1, (h k (by omega)).2]
theorem sP_ext {c c' : CC} : ∀ {k : Nat}, (∀ i, i < k → c'.cj i 15 = c.cj i 15) → sP c' k = sP c k
  | 0, _ => rfl
  | k + 1, h => by unfold sP; rw [sP_ext fun i hi => h i (by omega), h k (by omega)]
theorem sA_one {c c' : CC} {i : Nat} {v : Int64} : ∀ {k : Nat}, i < k → (∀ j, j ≠ i → c'.cj j = c.cj j) → c'.cj i 10 + c'.cj i 15 = c.cj i 10 + c.cj i 15 + v → sA c' k = sA c k + v
  | 0, h, _, _ => absurd h (Nat.not_lt_zero _)
  | k + 1, h, hj, hv => by
    unfold sA
    by_cases e : k = i
    · subst e
      rw [sA_ext (c := c) (c' := c') fun j hj' => by rw [hj j (by omega)]; exact ⟨rfl, rfl⟩, hv]
      grind
    · rw [sA_one (by omega) hj hv, hj k e]
      grind
theorem sP_one {c c' : CC} {i : Nat} {v : Int64} : ∀ {k : Nat}, i < k → (∀ j, j ≠ i → c'.cj j = c.cj j) → c'.cj i 15 = c.cj i 15 + v → sP c' k = sP c k + v
  | 0, h, _, _ => absurd h (Nat.not_lt_zero _)
  | k + 1, h, hj, hv => by
    unfold sP
    by_cases e : k = i
    · subst e
      rw [sP_ext (c := c) (c' := c') fun j hj' => by rw [hj j (by omega)], hv]
      grind
    · rw [sP_one (by omega) hj hv, hj k e]
      grind
/-- two claims may have changed -/
theorem sA_two {c c' : CC} {i n : Nat} (hi : i < n) (hj : ∀ j, j ≠ i → j ≠ n → c'.cj j = c.cj j) (h : c'.cj i 10 + c'.cj i 15 + (c'.cj n 10 + c'.cj n 15) = c.cj i 10 + c.cj i 15) : sA c' (n + 1) = sA c n := by
  have e : sA c' n = sA c n + (c'.cj i 10 + c'.cj i 15 - (c.cj i 10 + c.cj i 15)) := by
    have e1 : sA c' n = sA (c.pcj i 10 (c'.cj i 10 + c'.cj i 15 - c.cj i 15)) n := by
      clear h
      have key : ∀ k, k ≤ n → sA c' k = sA (c.pcj i 10 (c'.cj i 10 + c'.cj i 15 - c.cj i 15)) k := by
        intro k
        induction k with
        | zero => intro _; rfl
        | succ k ih =>
          intro hk
          unfold sA
          rw [ih (by omega)]
          by_cases e : k = i
          · subst e
            rw [h_a1, h_a6 (k := 10) (q := 15) (by decide)]
            grind
          · rw [h_a2 e, hj k e (by omega)]
      exact key n (Nat.le_refl _)
    rw [e1]
    refine sA_one hi (fun j e => h_a2 e) ?_
    rw [h_a1, h_a6 (k := 10) (q := 15) (by decide)]
    grind
  show sA c' n + (c'.cj n 10 + c'.cj n 15) = _
  rw [e]
  grind
/-- what is owed, of the open ones -/
def sO (c : CC) : Nat → Int64
  | 0 => 0
  | k + 1 => sO c k + (if c.ci k 8 = 0 then c.cj k 5 + c.cj k 9 else 0)
theorem sO_debt {n no nt t : Nat} {c : CC} (b : BD n no nt t c) : ∀ k, k ≤ n → (g_X3_debt c k).toInt ≤ (sO c k).toInt ∧ (sO c k).toInt ≤ 400000000 * k
  | 0, _ => ⟨Int.le_refl _, Int.le_refl _⟩
  | k + 1, hk => by
    obtain ⟨i1, i2⟩ := sO_debt b k (by omega)
    have hty := b.2.1
    have hix : ix (c.ti 3) ≤ 60 := by rw [re_ix]; omega
    obtain ⟨d1, d2⟩ := re_debtb b (fun _ _ => hix) k (by omega)
    have h9 : 0 ≤ (c.cj k 5).toInt ∧ 0 ≤ (c.cj k 9).toInt ∧ (c.cj k 5).toInt + (c.cj k 9).toInt ≤ gB (ix (c.ti 3)) := (b.2.2.2.2.2.2.2.2.2.1 k (by omega)).2.2.2.2.2.2.2.2.2.1
    have hg := gB_le hix
    have hn : n ≤ 40 := b.1.1
    have ho : (i_X0_owed c k).toInt = (c.cj k 5).toInt + (c.cj k 9).toInt := re_add (by omega) (by omega)
    have ho2 : (c.cj k 5 + c.cj k 9).toInt = (c.cj k 5).toInt + (c.cj k 9).toInt := re_add (by omega) (by omega)
    have ha : (g_X3_debt c k + i_X0_owed c k).toInt = (g_X3_debt c k).toInt + (i_X0_owed c k).toInt := re_add (by omega) (by omega)
    have hs : (sO c k + (c.cj k 5 + c.cj k 9)).toInt = (sO c k).toInt + (c.cj k 5 + c.cj k 9).toInt := re_add (by omega) (by omega)
    unfold g_X3_debt sO
    by_cases h8 : c.ci k 8 = 0
    · rw [if_pos h8, if_neg (fun e => (re_open.mp e) h8), hs]
      repeat' split
      all_goals first | rw [Int64.add_zero]; omega | rw [ha]; omega
    · rw [if_neg h8, if_pos (re_open.mpr h8), Int64.add_zero, Int64.add_zero]
      omega
/-- rows that a call leaves -/
def KP (n : Nat) (c c' : CC) : Prop := (c'.ti 3 = c.ti 3 ∧ c'.ti 13 = c.ti 13) ∧ ∀ i, i < n → c'.ci i 1 = c.ci i 1 ∧ c'.ci i 7 = c.ci i 7 ∧ c'.ci i 8 = c.ci i 8 ∧ c'.cj i = c.cj i
theorem XS.kp {n : Nat} {c c' : CC} (h : XS n c) (k : KP n c c') : XS n c' := by
  refine ⟨by rw [k.1.2]; exact h.1, fun i hi => ?_⟩
  obtain ⟨k1, k7, k8, kj⟩ := k.2 i hi
  have := h.2 i hi
  unfold XC at *
  rw [k.1.1, k1, k7, k8, kj]; exact this
theorem XS.one {n i : Nat} {c c' : CC} (h : XS n c) (ht : c'.ti 3 = c.ti 3) (ht2 : c'.ti 13 = c.ti 13) (hj : ∀ j, j ≠ i → c'.ci j = c.ci j ∧ c'.cj j = c.cj j) (hx : XC (c.ti 3).toInt (c'.ci i) (c'.cj i)) : XS n c' := by
  refine ⟨by rw [ht2]; exact h.1, fun j hjn => ?_⟩
  rw [ht]
  by_cases e : j = i
  · rw [e]; exact hx
  · rw [(hj j e).1, (hj j e).2]; exact h.2 j hjn
