/-! untilDry, leastShoes, longestWalk: alike -/
section LNG
variable {m d D : Nat} {S : SS} {z : Nat → Int32}
theorem RSa.untilDry (h : RSa m d D S z) (hm : m < 4096) {p : Nat} (hp : p < 12) : (if s_wa S p = 0 then 0 else if 0 < s_se S 1 then (if bt1 (s_fz S) p = 0 then (s_wa S p + s_se S 1 - 1) / s_se S 1 else (s_wa S p + s_se S 1 - 1) / s_se S 1 + 1) else (-6)) = if z (8 + 5 * p + 1) = 0 then 0 else if z 1 = 0 then (-6) else z (8 + 5 * p + 2) + (z (8 + 5 * p + 1) + z 1 - 1) / z 1 := by
  rw [h.wa p hp, h.se 1 (by omega), h.bF hm hp, h.fb p hp]
  by_cases c : z (8 + 5 * p + 1) = 0
  · rw [if_pos c, if_pos c]
  · rw [if_neg c, if_neg c]
    by_cases c2 : z 1 = 0
    · rw [if_pos c2, if_neg (by rw [c2]; decide)]
    · have : 0 < z 1 := by
        have h1 : ¬ (z 1).toInt < 0 := fun q => h.nn (Int32.lt_iff_toInt_lt.mpr q)
        have h2 : (z 1).toInt ≠ 0 := fun q => c2 (Int32.toInt_inj.mp q)
        refine Int32.lt_iff_toInt_lt.mpr ?_
        show (0 : Int) < _
        omega
      rw [if_neg c2, if_pos this]
      rcases bitz_01 m p with e | e <;> rw [e]
      · rw [if_pos rfl, Int32.zero_add]
      · rw [if_neg (by decide), Int32.add_comm]
theorem allZ_1 (g : Nat → Int32) : ∀ n i, (∀ k, i ≤ k → k < i + n → g k = 0) → allZ g n i = 1 := by
  intro n
  induction n with
  | zero => intro i _; rfl
  | succ n ih =>
    intro i h
    show (if g i = 0 then allZ g n (i + 1) else 0) = _
    rw [if_pos (h i (Nat.le_refl _) (by omega))]
    exact ih (i + 1) (fun k h1 h2 => h k (by omega) (by omega))
theorem allZ_0 (g : Nat → Int32) : ∀ n i k, i ≤ k → k < i + n → ¬ g k = 0 → allZ g n i = 0 := by
  intro n
  induction n with
  | zero => intro i k h1 h2 _; omega
  | succ n ih =>
    intro i k h1 h2 h3
    show (if g i = 0 then allZ g n (i + 1) else 0) = _
    by_cases c : g i = 0
    · rw [if_pos c]
      exact ih (i + 1) k (by by_cases e : k = i
                             · subst e; exact absurd c h3
                             · omega) (by omega) h3
    · rw [if_neg c]
theorem nI4095 : ∀ M, M < 4096 → (nI M = 4095 ↔ M = 4095) := by64 (P := fun M => (nI M = 4095 ↔ M = 4095)) (by decide +kernel)
theorem RSa.lsq (h : RSa m d D S z) (hm : m < 4096) (hd : d < 4096) {w : Nat} (hw : w < 6) (i : Nat) : lsA S w i = if orD (zMg z w (nI i)) 12 = 4095 then 1 else 0 := by
  have e1 : orD (zMg z w (nI i)) 12 = mkD (fun p => if zRs z w p (nI i) = 0 then 1 else 0) 12 := by
    refine or_mk 12 (fun k hk => ?_)
    unfold zMg
    by_cases e : zRs z w k (nI i) = 0
    · rw [if_pos e, if_pos e, if_neg (by decide)]
    · rw [if_neg e, if_neg e, if_pos rfl]
  obtain ⟨M, h1, h2, h3⟩ := mk_mask (fun p => if zRs z w p (nI i) = 0 then (1 : Int32) else 0) 12 (Nat.le_refl _)
  rw [e1, h2]
  show allZ (fun p => rsnA S w p (nI i)) 12 0 = _
  by_cases c : M = 4095
  · subst c
    rw [if_pos ((nI4095 _ h1).mpr rfl)]
    refine allZ_1 _ 12 0 (fun k _ hk => ?_)
    have hk : k < 12 := by omega
    show rsnA S w k (nI i) = 0
    rw [h.rsn hm hd hw hk]
    refine Classical.not_not.mp (fun q => ?_)
    have h4 := h3 k hk
    rw [if_neg (fun x => x.2 (by show (if zRs z w k (nI i) = 0 then (1 : Int32) else 0) = 0; rw [if_neg q]))] at h4
    have : ∀ k, k < 12 → bitz 4095 k = 1 := by decide
    rw [this k hk] at h4
    exact absurd h4 (by decide)
  · rw [if_neg (fun q => c ((nI4095 _ h1).mp q))]
    have : ∃ k, k < 12 ∧ ¬ zRs z w k (nI i) = 0 := by
      refine Classical.not_not.mp (fun q => c ?_)
      refine bitz_ext h1 (by decide) (fun k hk => ?_)
      have e0 : zRs z w k (nI i) = 0 := Classical.not_not.mp (fun x => q ⟨k, hk, x⟩)
      have : ∀ k, k < 12 → bitz 4095 k = 1 := by decide
      rw [this k hk, h3 k hk, if_pos ⟨hk, by show ¬ (if zRs z w k (nI i) = 0 then (1 : Int32) else 0) = 0; rw [if_pos e0]; decide⟩]
    obtain ⟨k, hk, e⟩ := this
    exact allZ_0 _ 12 0 k (by omega) (by omega) (by show ¬ rsnA S w k (nI i) = 0; rw [h.rsn hm hd hw hk]; exact e)
theorem RSa.least (h : RSa m d D S z) (hm : m < 4096) (hd : d < 4096) {w : Nat} (hw : w < 6) : lsG (lsA S w) 4 0 = mlS z w 4 := by
  show (if lsA S w 0 = 0 then (if lsA S w 1 = 0 then (if lsA S w 2 = 0 then (if lsA S w 3 = 0 then (-6) else nI 3) else nI 2) else nI 1) else nI 0)
    = if orD (zMg z w (nI (4 - 3) - 1)) 12 = 4095 then nI (4 - 3) - 1 else if orD (zMg z w (nI (4 - 2) - 1)) 12 = 4095 then nI (4 - 2) - 1 else if orD (zMg z w (nI (4 - 1) - 1)) 12 = 4095 then nI (4 - 1) - 1 else if orD (zMg z w (nI (4 - 0) - 1)) 12 = 4095 then nI (4 - 0) - 1 else (-6)
  rw [show nI (4 - 3) - 1 = nI 0 by decide, show nI (4 - 2) - 1 = nI 1 by decide, show nI (4 - 1) - 1 = nI 2 by decide, show nI (4 - 0) - 1 = nI 3 by decide, h.lsq hm hd hw, h.lsq hm hd hw, h.lsq hm hd hw, h.lsq hm hd hw]
  have key : ∀ (P : Prop) [Decidable P] (a b : Int32), (if (if P then (1 : Int32) else 0) = 0 then a else b) = if P then b else a := by
    intro P _ a b
    by_cases c : P
    · rw [if_pos c, if_pos c, if_neg (by decide)]
    · rw [if_neg c, if_neg c, if_pos rfl]
  rw [key, key, key, key]
/-- the longest run of a mask, both ways -/
def mlB (M : Nat) : Nat → Int32 × Int32 | 0 => (0, (-6)) | i + 1 => if nI (stq (fun k => if M.testBit (plc k i 11) then 0 else 1) (11 - i + (i - 11) + 1) 0) ≤ (mlB M i).1 then mlB M i else (nI (stq (fun k => if M.testBit (plc k i 11) then 0 else 1) (11 - i + (i - 11) + 1) 0), nI i)
end LNG
