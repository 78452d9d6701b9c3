theorem nmX12 : ∀ a, a < 58 → ∀ b, b < 58 → a ≠ b → (TX12 a).2.1 ≠ (TX12 b).2.1 := nm_half (f := fun k => (TX12 k).2.1) (by decide +kernel)
