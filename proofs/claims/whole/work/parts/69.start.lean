/-! THE RELATION, 21: at the start, and what the model's methods ask for -/
theorem re_beg : EQ 0 0 0 cc0 mc0 ∧ BD 0 0 0 0 cc0 := by
  have hb : ∀ k, k < 8 → (0 : Int32) = f_X3_hasBit (0 : Int32).toInt64 (nI k) := by decide
  refine ⟨⟨⟨rfl, rfl, rfl, rfl, rfl, rfl, rfl, rfl, rfl, rfl, rfl, rfl, fun i hi => absurd hi (Nat.not_lt_zero _), fun i _ _ => ⟨rfl, rfl, rfl, rfl, rfl, rfl⟩, fun i hi => absurd hi (Nat.not_lt_zero _), fun j i _ _ => ⟨fun hj => absurd hj (Nat.not_lt_zero _), fun _ => (show ¬ (0 : Int32) = 1 by decide)⟩, fun i hi => absurd hi (Nat.not_lt_zero _), fun _ _ _ => rfl, fun k hk => ?_, fun k hk => ?_⟩, fun k hk => ⟨rfl, rfl, ⟨fun _ => rfl, fun _ => rfl⟩⟩⟩, ⟨⟨by decide, by decide, by decide, by decide⟩, ?_, ?_, ?_, ?_, ⟨0, by decide, rfl⟩, ⟨0, by decide, rfl⟩, ?_, ?_, fun i hi => absurd hi (Nat.not_lt_zero _), fun i hi => absurd hi (Nat.not_lt_zero _), fun i hi => absurd hi (Nat.not_lt_zero _)⟩⟩
  · exact hb k (by omega)
  · exact hb k hk
  · show 0 ≤ (0 : Int32).toInt ∧ (0 : Int32).toInt ≤ 60; decide
  · show -1000 ≤ (0 : Int32).toInt ∧ (0 : Int32).toInt ≤ 1000; decide
  · show -200 ≤ (0 : Int32).toInt ∧ (0 : Int32).toInt ≤ 200; decide
  · show 0 ≤ (800 : Int32).toInt ∧ (800 : Int32).toInt ≤ 1500; decide
  · exact ⟨show 0 ≤ (0 : Int32).toInt by decide, show (0 : Int32).toInt ≤ 1000000 by decide, Or.inl rfl⟩
  · show gL 0 ≤ (1000000 : Int64).toInt ∧ (1000000 : Int64).toInt ≤ gB 0; decide
theorem EQ.ks {n no nt t : Nat} {c : CC} {m : MC} (h : EQ n no nt c m) (b : BD n no nt t c) : ∀ i, i < n → inr (m.ai 8 i) 5 := by
  intro i hi
  have b0 := (b.at hi).1
  rw [(h.er hi).1]
  unfold inr
  rw [re_ile, re_ilt, re_nI (by decide), show (0 : Int32).toInt = 0 from rfl]; omega
theorem EQ.ls {n no nt t : Nat} {c : CC} {m : MC} (h : EQ n no nt c m) (b : BD n no nt t c) : ∀ i, i < n → inr (m.ai 9 i) 8 := by
  intro i hi
  have b0 := (b.at hi).2.1
  rw [(h.er hi).2.1]
  unfold inr
  rw [re_ile, re_ilt, re_nI (by decide), show (0 : Int32).toInt = 0 from rfl]; omega
theorem EQ.bs {n no nt t : Nat} {c : CC} {m : MC} (h : EQ n no nt c m) (b : BD n no nt t c) : ∀ i, i < n → m.ai 15 i = 0 ∨ m.ai 15 i = 1 := by
  intro i hi
  rw [(h.er hi).2.2.2.2.1]
  exact (b.at hi).2.2.2.2.1
theorem EQ.y {n no nt t : Nat} {c : CC} {m : MC} (h : EQ n no nt c m) (b : BD n no nt t c) : 0 ≤ (m.ti 1).toInt ∧ (m.ti 1).toInt ≤ 100 := by
  have := b.2.1
  rw [h.1.2.2.2.1]; omega
theorem EQ.dd {n no nt t : Nat} {c : CC} {m : MC} (h : EQ n no nt c m) (b : BD n no nt t c) : ∀ i, i < n → 0 ≤ (m.ai 12 i).toInt ∧ (m.ai 12 i).toInt ≤ 200 := by
  intro i hi
  have := b.2.1
  have b7 := (b.at hi).2.2.2.2.2.2.1
  rw [(h.er hi).2.2.2.2.2.2.1]; omega
theorem EQ.yo {n no nt t : Nat} {c : CC} {m : MC} (h : EQ n no nt c m) (b : BD n no nt t c) : ∀ j, j < no → 0 ≤ (m.ti 1 + m.ai 26 j).toInt ∧ (m.ti 1 + m.ai 26 j).toInt ≤ 200 := by
  intro j hj
  have := b.2.1
  have p := (b.of hj).2.2
  rw [h.1.2.2.2.1, (h.ofr hj).2.2, re_iadd (by omega) (by omega)]; omega
theorem EQ.hz {n no nt t : Nat} {c : CC} {m : MC} (h : EQ n no nt c m) (b : BD n no nt t c) : ¬ ((10000 + m.ti 6 : Int32).toInt64) = 0 := by
  have p := b.2.2.2.2.1
  rw [h.1.2.2.2.2.2.2.2.2.1]
  intro e
  have := re_rate p.1 p.2
  rw [e, show (0 : Int64).toInt = 0 from rfl] at this
  omega
theorem EQ.out {n no nt t : Nat} {c : CC} {m : MC} (h : EQ n no nt c m) (b : BD n no nt t c) : ¬ m.tj 3 = 0 := by
  have p := b.2.2.2.2.2.2.2.2.1
  have q := b.2.1
  have := gL_ge (show ix (c.ti 3) ≤ 90 by rw [re_ix]; omega)
  rw [h.1.2.2.2.2.2.1]
  intro e
  rw [e, show (0 : Int64).toInt = 0 from rfl] at p
  omega
