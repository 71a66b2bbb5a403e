/-! longestWalk and put: alike -/
section PUT
variable {m d D : Nat} {S : SS} {z : Nat → Int32}
theorem stq_congr {g1 g2 : Nat → Int32} : ∀ n i, (∀ k, i ≤ k → k < i + n → (g1 k = 0 ↔ g2 k = 0)) → stq g1 n i = stq g2 n i := by
  intro n
  induction n with
  | zero => intro i _; rfl
  | succ n ih =>
    intro i h
    have h0 := h i (Nat.le_refl _) (by omega)
    show (if g1 i = 0 then stq g1 n (i + 1) else i) = if g2 i = 0 then stq g2 n (i + 1) else i
    by_cases e : g1 i = 0
    · rw [if_pos e, if_pos (h0.mp e)]
      exact ih (i + 1) (fun k hk hk2 => h k (by omega) (by omega))
    · rw [if_neg e, if_neg (fun q => e (h0.mpr q))]
theorem rs_longest (h : RSa m d D S z) (hm : m < 4096) (hd : d < 4096) {w : Nat} (hw : w < 6) : (lwL (mkD (mayC S w) 12) 12).2 = mlW z w 12 := by
  obtain ⟨M, h1, h2, h3⟩ := mk_mask (mayC S w) 12 (Nat.le_refl _)
  rw [h2, lw_all M h1]
  have key : ∀ i, i ≤ 12 → mlB M i = mlW z w i := by
    intro i
    induction i with
    | zero => intro _; rfl
    | succ i ih =>
      intro hi
      have e : stq (fun k => if M.testBit (plc k i 11) then (0 : Int32) else 1) (11 - i + (i - 11) + 1) 0 = zAl z w i 11 := by
        unfold zAl
        refine stq_congr _ _ (fun k _ hk => ?_)
        have hq := plc_lt1 (k := k) (f := i) (t := 11) (by omega) (by omega) (by omega)
        have h4 := h3 _ hq
        show (if M.testBit (plc k i 11) then (0 : Int32) else 1) = 0 ↔ zRs z w (plc k i 11) (z (68 + 4 * w + 0)) = 0
        rw [← h.rsn hm hd hw hq, ← h.sh w hw]
        unfold mayC at h4
        unfold bitz at h4
        by_cases c : rsnA S w (plc k i 11) (s_sh S w) = 0
        · rw [if_pos (show plc k i 11 < 12 ∧ ¬ (if rsnA S w (plc k i 11) (s_sh S w) = 0 then (1 : Int32) else 0) = 0 from ⟨hq, by rw [if_pos c]; decide⟩)] at h4
          by_cases c2 : M.testBit (plc k i 11) = true
          · rw [if_pos c2]; exact ⟨fun _ => c, fun _ => rfl⟩
          · rw [if_neg c2] at h4; exact absurd h4 (by decide)
        · rw [if_neg (show ¬ (plc k i 11 < 12 ∧ ¬ (if rsnA S w (plc k i 11) (s_sh S w) = 0 then (1 : Int32) else 0) = 0) from fun q => q.2 (by rw [if_neg c]))] at h4
          by_cases c2 : M.testBit (plc k i 11) = true
          · rw [if_pos c2] at h4; exact absurd h4 (by decide)
          · rw [if_neg c2]; exact ⟨fun q => absurd q (by decide), fun q => absurd q c⟩
      show (if nI (stq (fun k => if M.testBit (plc k i 11) then (0 : Int32) else 1) (11 - i + (i - 11) + 1) 0) ≤ (mlB M i).1 then mlB M i else (nI (stq (fun k => if M.testBit (plc k i 11) then (0 : Int32) else 1) (11 - i + (i - 11) + 1) 0), nI i)) = if nI (zAl z w i 11) ≤ (mlW z w i).1 then mlW z w i else (nI (zAl z w i 11), nI i)
      rw [e, ih (by omega)]
  exact key 12 (Nat.le_refl _)
theorem sh8_end {y : Nat} (hy : y < 2 ^ 64) : sh8 y 8 = 0 := by unfold sh8; exact Nat.div_eq_of_lt hy
theorem sh8_lt {y i : Nat} (h : sh8 y i = 0) : ∀ j, i ≤ j → sh8 y j = 0 := by
  intro j hj
  unfold sh8 at h ⊢
  have h1 : y < 2 ^ (8 * i) := by
    rcases Nat.div_eq_zero_iff.mp h with h | h
    · exact absurd h (Nat.ne_of_gt (Nat.two_pow_pos _))
    · exact h
  exact Nat.div_eq_of_lt (Nat.lt_of_lt_of_le h1 (Nat.pow_le_pow_right (by decide) (by omega)))
theorem in_ch {c : Nat} (hc : c < 256) : inC (nI c) 33 126 = if c < 33 then 0 else if c ≤ 126 then 1 else 0 := by
  have key : ∀ c, c < 256 → inC (nI c) 33 126 = if c < 33 then 0 else if c ≤ 126 then 1 else 0 := by decide +kernel
  exact key c hc
/-- bad or too long: the class says 0, the other 99; else both the length -/
theorem ch_mc {y : Nat} (hy : y < 2 ^ 64) : ∀ n i, i + n = 8 → (mcG y n i = 99 ∧ chG y n i = 0) ∨ (mcG y n i = chG y n i ∧ i ≤ mcG y n i ∧ mcG y n i ≤ 8) := by
  intro n
  induction n with
  | zero =>
    intro i hi
    obtain rfl : i = 8 := by omega
    refine Or.inr ⟨?_, Nat.le_refl _, Nat.le_refl _⟩
    show 8 = if sh8 y 8 = 0 then 8 else 0
    rw [if_pos (sh8_end hy)]
  | succ n ih =>
    intro i hi
    have e1 : mcG y (n + 1) i = if sh8 y i = 0 then i else if inC (nI (sh8 y i % 256)) 33 126 = 0 then 99 else mcG y n (i + 1) := rfl
    have e2 : chG y (n + 1) i = if sh8 y i % 256 = 0 then chF y i else if sh8 y i % 256 < 33 then 0 else if sh8 y i % 256 ≤ 126 then chG y n (i + 1) else 0 := rfl
    have eF : chF y i = if sh8 y i = 0 then i else 0 := rfl
    rw [e1, e2, eF, in_ch (Nat.mod_lt _ (by decide))]
    by_cases c : sh8 y i = 0
    · rw [c, if_pos rfl, show (0 : Nat) % 256 = 0 from rfl, if_pos rfl, if_pos rfl]
      exact Or.inr ⟨rfl, Nat.le_refl _, by omega⟩
    · rw [if_neg c]
      generalize sh8 y i % 256 = q
      by_cases c2 : q < 33
      · have hA : (if (if q < 33 then (0 : Int32) else if q ≤ 126 then 1 else 0) = 0 then 99 else mcG y n (i + 1)) = 99 := by rw [if_pos c2, if_pos rfl]
        have hB : (if q = 0 then (if sh8 y i = 0 then i else 0) else if q < 33 then 0 else if q ≤ 126 then chG y n (i + 1) else 0) = 0 := by rw [if_neg c, if_pos c2]; split <;> rfl
        exact Or.inl ⟨hA, hB⟩
      · have q0 : ¬ q = 0 := by omega
        by_cases c3 : q ≤ 126
        · have hA : (if (if q < 33 then (0 : Int32) else if q ≤ 126 then 1 else 0) = 0 then 99 else mcG y n (i + 1)) = mcG y n (i + 1) := by rw [if_neg c2, if_pos c3, if_neg (by decide)]
          have hB : (if q = 0 then (if sh8 y i = 0 then i else 0) else if q < 33 then 0 else if q ≤ 126 then chG y n (i + 1) else 0) = chG y n (i + 1) := by rw [if_neg q0, if_neg c2, if_pos c3]
          rw [hA, hB]
          rcases ih (i + 1) (by omega) with h | ⟨h1, h2, h3⟩
          · exact Or.inl h
          · exact Or.inr ⟨h1, by omega, h3⟩
        · have hA : (if (if q < 33 then (0 : Int32) else if q ≤ 126 then 1 else 0) = 0 then 99 else mcG y n (i + 1)) = 99 := by rw [if_neg c2, if_neg c3, if_pos rfl]
          have hB : (if q = 0 then (if sh8 y i = 0 then i else 0) else if q < 33 then 0 else if q ≤ 126 then chG y n (i + 1) else 0) = 0 := by rw [if_neg q0, if_neg c2, if_neg c3]
          exact Or.inl ⟨hA, hB⟩
end PUT
