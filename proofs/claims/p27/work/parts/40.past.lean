/-! history and slots of the class: what they bring back -/
section PAST
theorem upd_ne {f : Nat → Int32} {k j : Nat} {x : Int32} (h : j ≠ k) : upd f k x j = f j := if_neg h
theorem upd_self (f : Nat → Int32) (k : Nat) : upd f k (f k) = f := by funext j; unfold upd; split <;> simp_all
def consS (S : SS) (h : Nat → SS) : Nat → SS | 0 => S | i + 1 => h i
def updT (T : Nat → SS) (k : Nat) (S : SS) : Nat → SS := fun j => if j = k then S else T j
theorem updT_at (T : Nat → SS) (k : Nat) (S : SS) : updT T k S k = S := if_pos rfl
theorem updT_ne {T : Nat → SS} {k j : Nat} {S : SS} (h : j ≠ k) : updT T k S j = T j := if_neg h
def RHist (n : Nat) (rf : Nat → Option Nat) (k π : Nat → Nat) (T hs : Nat → SS) : Prop :=
  n ≤ 6 ∧ (∀ i, i < 6 → π i < 6) ∧ (∀ i j, i < 6 → j < 6 → π i = π j → i = j) ∧ (∀ i, i < 6 → rf i = some (k (π i))) ∧ ∀ i, i < n → T (π (n - 1 - i)) = hs i
theorem RHist.rec {n : Nat} {rf : Nat → Option Nat} {k π : Nat → Nat} {T hs : Nat → SS} (h : RHist n rf k π T hs) (S : SS) :
    ∃ j0 π', j0 < 6 ∧ recT n rf = some (k j0) ∧ RHist (recN n) (recR n rf) k π' (updT T j0 S) (consS S hs) := by
  obtain ⟨h1, h2, h3, h4, h5⟩ := h
  by_cases c : n < 6
  · refine ⟨π n, π, h2 n c, by unfold recT; rw [if_pos c]; exact h4 n c, ?_⟩
    unfold recN recR
    rw [if_pos c, if_pos c]
    refine ⟨by omega, h2, h3, h4, fun i hi => ?_⟩
    match i, hi with
    | 0, _ => exact updT_at _ _ _
    | i + 1, hi =>
      show updT T (π n) S (π (n + 1 - 1 - (i + 1))) = hs i
      rw [show n + 1 - 1 - (i + 1) = n - 1 - i by omega, updT_ne (fun q => by have := h3 _ _ (by omega) c q; omega)]
      exact h5 i (by omega)
  · have n6 : n = 6 := by omega
    subst n6
    refine ⟨π 0, fun i => if i + 1 < 6 then π (i + 1) else π 0, h2 0 (by omega), by unfold recT; rw [if_neg c]; exact h4 0 (by omega), ?_⟩
    unfold recN recR
    rw [if_neg c, if_neg c]
    refine ⟨by omega, fun i hi => ?_, fun i j hi hj => ?_, fun i hi => ?_, fun i hi => ?_⟩
    · show (if i + 1 < 6 then π (i + 1) else π 0) < 6
      split
      · exact h2 _ (by omega)
      · exact h2 _ (by omega)
    · show (if i + 1 < 6 then π (i + 1) else π 0) = (if j + 1 < 6 then π (j + 1) else π 0) → i = j
      by_cases a : i + 1 < 6
      · rw [if_pos a]
        by_cases b : j + 1 < 6
        · rw [if_pos b]; intro q; have := h3 _ _ a b q; omega
        · rw [if_neg b]; intro q; have := h3 _ _ a (by omega) q; omega
      · rw [if_neg a]
        by_cases b : j + 1 < 6
        · rw [if_pos b]; intro q; have := h3 _ _ (by omega) b q; omega
        · intro _; omega
    · show rotR rf i = some (k (if i + 1 < 6 then π (i + 1) else π 0))
      unfold rotR
      by_cases a : i + 1 < 6
      · rw [if_pos a, if_pos a]; exact h4 _ a
      · rw [if_neg a, if_neg a, if_pos (by omega)]; exact h4 0 (by omega)
    · match i, hi with
      | 0, _ => exact updT_at _ _ _
      | i + 1, hi =>
        show updT T (π 0) S (if (6 - 1 - (i + 1)) + 1 < 6 then π ((6 - 1 - (i + 1)) + 1) else π 0) = hs i
        rw [if_pos (by omega), updT_ne (fun q => by have := h3 _ 0 (by omega) (by omega) q; omega), show 6 - 1 - (i + 1) + 1 = 6 - 1 - i by omega]
        exact h5 i (by omega)
theorem RHist.undo {n : Nat} {rf : Nat → Option Nat} {k π : Nat → Nat} {T hs : Nat → SS} (h : RHist n rf k π T hs) (h0 : 0 < n) :
    π (n - 1) < 6 ∧ rf (n - 1) = some (k (π (n - 1))) ∧ T (π (n - 1)) = hs 0 ∧ RHist (n - 1) rf k π T (fun i => hs (i + 1)) := by
  obtain ⟨h1, h2, h3, h4, h5⟩ := h
  refine ⟨h2 _ (by omega), h4 _ (by omega), h5 0 h0, by omega, h2, h3, h4, fun i hi => ?_⟩
  rw [show n - 1 - 1 - i = n - 1 - (i + 1) by omega]
  exact h5 (i + 1) (by omega)
def updU (u : Nat → Option SS) (k : Nat) (X : SS) : Nat → Option SS := fun j => if j = k then some X else u j
def RSlot (us : Nat → Int32) (T2 : Nat → SS) (u : Nat → Option SS) : Prop := ∀ j, j < 2 → (u j = none → us j = 0) ∧ ∀ X, u j = some X → ¬ us j = 0 ∧ T2 j = X
theorem RSlot.save {us : Nat → Int32} {T2 : Nat → SS} {u : Nat → Option SS} (h : RSlot us T2 u) (S : SS) (k : Nat) : RSlot (upd us k 1) (updT T2 k S) (updU u k S) := by
  intro i hi
  by_cases e : i = k
  · subst e
    unfold updU
    rw [if_pos rfl, upd_at, updT_at]
    refine ⟨fun q => (by cases q), fun X q => ⟨by decide, Option.some.inj q⟩⟩
  · unfold updU
    rw [if_neg e, upd_ne e, updT_ne e]
    exact h i hi
end PAST
