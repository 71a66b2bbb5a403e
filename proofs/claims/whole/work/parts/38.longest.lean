/-! longestWalk: the longest run of a mask, counted both ways -/
theorem lw_0 : ∀ a, a < 8 → ∀ b, b < 64 → (lwL (nI (64 * (8 * 0 + a) + b)) 12).2 = mlB (64 * (8 * 0 + a) + b) 12 := by decide +kernel
theorem lw_1 : ∀ a, a < 8 → ∀ b, b < 64 → (lwL (nI (64 * (8 * 1 + a) + b)) 12).2 = mlB (64 * (8 * 1 + a) + b) 12 := by decide +kernel
theorem lw_2 : ∀ a, a < 8 → ∀ b, b < 64 → (lwL (nI (64 * (8 * 2 + a) + b)) 12).2 = mlB (64 * (8 * 2 + a) + b) 12 := by decide +kernel
theorem lw_3 : ∀ a, a < 8 → ∀ b, b < 64 → (lwL (nI (64 * (8 * 3 + a) + b)) 12).2 = mlB (64 * (8 * 3 + a) + b) 12 := by decide +kernel
theorem lw_4 : ∀ a, a < 8 → ∀ b, b < 64 → (lwL (nI (64 * (8 * 4 + a) + b)) 12).2 = mlB (64 * (8 * 4 + a) + b) 12 := by decide +kernel
theorem lw_5 : ∀ a, a < 8 → ∀ b, b < 64 → (lwL (nI (64 * (8 * 5 + a) + b)) 12).2 = mlB (64 * (8 * 5 + a) + b) 12 := by decide +kernel
theorem lw_6 : ∀ a, a < 8 → ∀ b, b < 64 → (lwL (nI (64 * (8 * 6 + a) + b)) 12).2 = mlB (64 * (8 * 6 + a) + b) 12 := by decide +kernel
theorem lw_7 : ∀ a, a < 8 → ∀ b, b < 64 → (lwL (nI (64 * (8 * 7 + a) + b)) 12).2 = mlB (64 * (8 * 7 + a) + b) 12 := by decide +kernel
theorem lw_all (M : Nat) (hM : M < 4096) : (lwL (nI M) 12).2 = mlB M 12 := by
  have e : M = 64 * (8 * (M / 512) + M / 64 % 8) + M % 64 := by omega
  have hc : M / 512 < 8 := by omega
  rw [e]
  generalize M / 512 = c at *
  rcases (show c = 0 ∨ c = 1 ∨ c = 2 ∨ c = 3 ∨ c = 4 ∨ c = 5 ∨ c = 6 ∨ c = 7 by omega) with rfl | rfl | rfl | rfl | rfl | rfl | rfl | rfl
  · exact lw_0 _ (by omega) _ (by omega)
  · exact lw_1 _ (by omega) _ (by omega)
  · exact lw_2 _ (by omega) _ (by omega)
  · exact lw_3 _ (by omega) _ (by omega)
  · exact lw_4 _ (by omega) _ (by omega)
  · exact lw_5 _ (by omega) _ (by omega)
  · exact lw_6 _ (by omega) _ (by omega)
  · exact lw_7 _ (by omega) _ (by omega)
