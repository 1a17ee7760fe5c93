/-! THE RELATION: bits of small sets -/
theorem bit_a : ∀ b, b < 256 → ∀ k, k < 8 → (∀ j, j < 8 → f_X3_hasBit (f_X3_withBit (nI b) (nI k) 1).toInt64 (nI j) = if j = k then 1 else f_X3_hasBit (nI b).toInt64 (nI j)) ∧ (f_X3_withBit (nI b) (nI k) 1 = nI b ↔ f_X3_hasBit (nI b).toInt64 (nI k) = 1) ∧ (∀ j, j < 8 → f_X3_hasBit (f_X3_withBit (nI b) (nI k) 0).toInt64 (nI j) = if j = k then 0 else f_X3_hasBit (nI b).toInt64 (nI j)) ∧ (f_X3_withBit (nI b) (nI k) 0 = nI b ↔ f_X3_hasBit (nI b).toInt64 (nI k) = 0) := by decide +kernel
theorem bit_c8 : ∀ b, b < 256 → ∀ k, k < 8 → (0 ≤ f_X3_withBit (nI b) (nI k) 1 ∧ ix (f_X3_withBit (nI b) (nI k) 1) < 256) ∧ (0 ≤ f_X3_withBit (nI b) (nI k) 0 ∧ ix (f_X3_withBit (nI b) (nI k) 0) < 256) := by decide +kernel
theorem bit_c5 : ∀ b, b < 32 → ∀ k, k < 5 → (0 ≤ f_X3_withBit (nI b) (nI k) 1 ∧ ix (f_X3_withBit (nI b) (nI k) 1) < 32) ∧ (0 ≤ f_X3_withBit (nI b) (nI k) 0 ∧ ix (f_X3_withBit (nI b) (nI k) 0) < 32) := by decide +kernel
theorem bit_set {b k : Nat} (hb : b < 256) (hk : k < 8) {z : Int32} (hz : z = 0 ∨ z = 1) :
    (∀ j, j < 8 → f_X3_hasBit (f_X3_withBit (nI b) (nI k) z).toInt64 (nI j) = if j = k then z else f_X3_hasBit (nI b).toInt64 (nI j)) ∧ (f_X3_withBit (nI b) (nI k) z = nI b ↔ f_X3_hasBit (nI b).toInt64 (nI k) = z) := by
  obtain ⟨h1, h2, h3, h4⟩ := bit_a b hb k hk
  rcases hz with e | e
  · rw [e]; exact ⟨h3, h4⟩
  · rw [e]; exact ⟨h1, h2⟩
theorem bit_in8 {b k : Nat} (hb : b < 256) (hk : k < 8) {z : Int32} (hz : z = 0 ∨ z = 1) : ∃ b', b' < 256 ∧ f_X3_withBit (nI b) (nI k) z = nI b' := by
  obtain ⟨h1, h2⟩ := bit_c8 b hb k hk
  rcases hz with e | e
  · rw [e]; exact ⟨_, h2.2, (re_nIix h2.1).symm⟩
  · rw [e]; exact ⟨_, h1.2, (re_nIix h1.1).symm⟩
theorem bit_in5 {b k : Nat} (hb : b < 32) (hk : k < 5) {z : Int32} (hz : z = 0 ∨ z = 1) : ∃ b', b' < 32 ∧ f_X3_withBit (nI b) (nI k) z = nI b' := by
  obtain ⟨h1, h2⟩ := bit_c5 b hb k hk
  rcases hz with e | e
  · rw [e]; exact ⟨_, h2.2, (re_nIix h2.1).symm⟩
  · rw [e]; exact ⟨_, h1.2, (re_nIix h1.1).symm⟩
