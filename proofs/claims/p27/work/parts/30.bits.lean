/-! masks of twelve bits -/
def bitz (m p : Nat) : Int32 := if m.testBit p then 1 else 0
def clrB (m p : Nat) : Nat := m &&& (4095 ^^^ 2 ^ p)
def setB (m p : Nat) : Nat := m ||| 2 ^ p
theorem by64 {P : Nat → Prop} (h : ∀ a, a < 64 → ∀ b, b < 64 → P (64 * a + b)) : ∀ m, m < 4096 → P m := by
  intro m hm
  have := h (m / 64) (by omega) (m % 64) (by omega)
  rwa [show 64 * (m / 64) + m % 64 = m by omega] at this
theorem bt1_nI : ∀ m, m < 4096 → ∀ p, p < 12 → bt1 (nI m) p = bitz m p := by64 (P := fun m => ∀ p, p < 12 → bt1 (nI m) p = bitz m p) (by decide +kernel)
theorem thaw1_nI : ∀ m, m < 4096 → ∀ p, p < 12 → thaw1 (nI m) p = nI (clrB m p) := by64 (P := fun m => ∀ p, p < 12 → thaw1 (nI m) p = nI (clrB m p)) (by decide +kernel)
theorem or1_nI : ∀ m, m < 4096 → ∀ p, p < 12 → nI m ||| ((1 : Int32) <<< (nI p &&& 31)) = nI (setB m p) := by64 (P := fun m => ∀ p, p < 12 → nI m ||| ((1 : Int32) <<< (nI p &&& 31)) = nI (setB m p)) (by decide +kernel)
theorem clrB_lt {m p : Nat} (h : m < 4096) : clrB m p < 4096 := Nat.lt_of_le_of_lt Nat.and_le_left h
theorem setB_lt {m p : Nat} (h : m < 4096) (hp : p < 12) : setB m p < 4096 := Nat.or_lt_two_pow (n := 12) h (Nat.pow_lt_pow_right (by decide) hp)
theorem clrB_bit {m p q : Nat} (hq : q < 12) : (clrB m p).testBit q = if q = p then false else m.testBit q := by
  unfold clrB
  rw [Nat.testBit_and, Nat.testBit_xor, Nat.testBit_two_pow, show (4095 : Nat) = 2 ^ 12 - 1 from rfl, Nat.testBit_two_pow_sub_one]
  by_cases h : q = p
  · subst h; simp [hq]
  · rw [if_neg h]; simp [hq, Ne.symm h]
theorem setB_bit {m p q : Nat} : (setB m p).testBit q = if q = p then true else m.testBit q := by
  unfold setB
  rw [Nat.testBit_or, Nat.testBit_two_pow]
  by_cases h : q = p
  · subst h; simp
  · rw [if_neg h]; simp [Ne.symm h]
theorem bitz_clr {m p q : Nat} (hq : q < 12) : bitz (clrB m p) q = if q = p then 0 else bitz m q := by
  unfold bitz; rw [clrB_bit hq]; by_cases h : q = p <;> simp [h]
theorem bitz_set {m p q : Nat} : bitz (setB m p) q = if q = p then 1 else bitz m q := by
  unfold bitz; rw [setB_bit]; by_cases h : q = p <;> simp [h]
theorem bitz_01 (m p : Nat) : bitz m p = 0 ∨ bitz m p = 1 := by unfold bitz; split <;> simp
/-- a mask's or: the places where g is not 0 -/
theorem orz_1 : ∀ p, p < 12 → (0 : Int32) <<< (nI p &&& 31) = 0 := by decide +kernel
