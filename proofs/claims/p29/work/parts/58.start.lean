/-! THE RELATION, 21: at the start, and what the model's methods ask for -/
theorem re_beg : EQ 0 0 0 cc0 mc0 ∧ BD 0 0 0 0 cc0 := by
  have hb : ∀ k, k < 8 → (0 : Int32) = f_X3_hasBit (0 : Int32).toInt64 (nI k) := by decide
  refine ⟨⟨⟨rfl, rfl, rfl, rfl, rfl, rfl, rfl, rfl, rfl, rfl, rfl, rfl, fun i hi => absurd hi (Nat.not_lt_zero _), fun i _ _ => ⟨rfl, rfl, rfl, rfl, rfl, rfl⟩, fun i hi => absurd hi (Nat.not_lt_zero _), fun j i _ _ => ⟨fun hj => absurd hj (Nat.not_lt_zero _), fun _ => (show ¬ (0 : Int32) = 1 by decide)⟩, fun i hi => absurd hi (Nat.not_lt_zero _), fun _ _ _ => rfl, fun k hk => ?_, fun k hk => ?_⟩, fun k hk => ⟨rfl, rfl, ⟨fun _ => rfl, fun _ => rfl⟩⟩⟩, ⟨⟨by decide, by decide, by decide, by decide⟩, ?_, ?_, ?_, ?_, ⟨0, by decide, rfl⟩, ⟨0, by decide, rfl⟩, ?_, ?_, fun i hi => absurd hi (Nat.not_lt_zero _), fun i hi => absurd hi (Nat.not_lt_zero _), fun i hi => absurd hi (Nat.not_lt_zero _)⟩⟩
  · exact hb k (by omega)
  · exact hb k hk
  · show 0 ≤ (0 : Int32).toInt ∧ (0 : Int32).toInt ≤ 60; decide
  · show -1000 ≤ (0 : Int32).toInt ∧ (0 : Int32).toInt ≤ 1000; decide
  · show -200 ≤ (0 : Int32).toInt ∧ (0 : Int32).toInt ≤ 200; decide
  · show 0 ≤ (800 : Int32).toInt ∧ (800 : Int32).toInt ≤ 1500; decide
  · exact ⟨show 0 ≤ (0 : Int32).toInt by decide, show (0 : Int32).toInt ≤ 1000000 by decide, Or.inl rfl⟩
  · show gL 0 ≤ (1000000 : Int64).toInt ∧ (1000000 : Int64).toInt ≤ gB 0; decide
