/-! numbers: masks, sums, counts -/
section NUM
def bN (m p : Nat) : Nat := if m.testBit p then 1 else 0
def snN (f : Nat → Nat) : Nat → Nat | 0 => 0 | i + 1 => snN f i + f i
def popN (m n : Nat) : Nat := snN (bN m) n
def knN (m : Nat) : Nat := m &&& (m - 1)
theorem bN_le (m p : Nat) : bN m p ≤ 1 := by unfold bN; split <;> omega
theorem bN_t {m p : Nat} (h : m.testBit p = true) : bN m p = 1 := if_pos h
theorem bN_f {m p : Nat} (h : m.testBit p = false) : bN m p = 0 := by unfold bN; rw [h]; rfl
theorem bt_N : ∀ m, m < 4096 → ∀ p, p < 12 → bt1 (nI m) p = nI (bN m p) := by64 (P := fun m => ∀ p, p < 12 → bt1 (nI m) p = nI (bN m p)) (by decide +kernel)
theorem sb_N : ∀ m, m < 4096 → ∀ p, p < 12 → ((nI m >>> (nI p &&& 31)) &&& nI 1) = nI (bN m p) := by64 (P := fun m => ∀ p, p < 12 → ((nI m >>> (nI p &&& 31)) &&& nI 1) = nI (bN m p)) (by decide +kernel)
theorem lo_N : ∀ m, m < 4096 → ∀ i, i < 12 → (nI (m % 2 ^ i) ||| (nI (bN m i) <<< (nI i &&& 31))) = nI (m % 2 ^ (i + 1)) := by64 (P := fun m => ∀ i, i < 12 → (nI (m % 2 ^ i) ||| (nI (bN m i) <<< (nI i &&& 31))) = nI (m % 2 ^ (i + 1))) (by decide +kernel)
theorem bc_N : ∀ m, m < 4096 → bcN (nI m) = nI (popN m 12) := by64 (P := fun m => bcN (nI m) = nI (popN m 12)) (by decide +kernel)
theorem kn_N : ∀ m, m < 4096 → 0 < m → (nI m &&& (nI m - nI 1)) = nI (knN m) ∧ knN m < m ∧ popN (knN m) 12 + 1 = popN m 12 := by64 (P := fun m => 0 < m → (nI m &&& (nI m - nI 1)) = nI (knN m) ∧ knN m < m ∧ popN (knN m) 12 + 1 = popN m 12) (by decide +kernel)
end NUM
