/-! history and slots: alike -/
section PAST
def RSx (S : SS) (z : Nat → Int32) : Prop := ∃ m d D, m < 4096 ∧ d < 4096 ∧ D ≤ 9999 ∧ RSa m d D S z
theorem RSa.cong {m d D : Nat} {S : SS} {z z' : Nat → Int32} (h : RSa m d D S z) (h1 : ∀ j, j < 164 → z' j = z j) : RSa m d D S z' :=
  ⟨fun q hq => (h.se q hq).trans (h1 _ (by omega)).symm, h.dy, (h1 _ (by omega)).trans h.z4, h.fe.trans (h1 _ (by omega)).symm, h.dr.trans (h1 _ (by omega)).symm, h.dn.trans (h1 _ (by omega)).symm,
   fun q hq => (h.br q hq).trans (h1 _ (by omega)).symm, fun q hq => (h.wa q hq).trans (h1 _ (by omega)).symm, fun q hq => (h.cr q hq).trans (h1 _ (by omega)).symm,
   h.fz, fun q hq => (h1 _ (by omega)).trans (h.fb q hq), h.dk, fun q hq => (h1 _ (by omega)).trans (h.db q hq),
   fun q hq => (h.sh q hq).trans (h1 _ (by omega)).symm, fun q hq => (h.ow q hq).trans (h1 _ (by omega)).symm, fun q hq => (h.pa q hq).trans (h1 _ (by omega)).symm, fun q hq => (h.cb q hq).trans (h1 _ (by omega)).symm,
   fun w hw p hp => (h.pd w hw p hp).trans (h1 _ (by omega)).symm, by rw [h1 1 (by omega)]; exact h.nn⟩
theorem RSx.cong {S : SS} {z z' : Nat → Int32} (h : RSx S z) (h1 : ∀ j, j < 164 → z' j = z j) : RSx S z' := by
  obtain ⟨m, d, D, a, b, c, e⟩ := h
  exact ⟨m, d, D, a, b, c, e.cong h1⟩
theorem shP_at (g : Nat → Int32) : ∀ n j, shP g n j = if j < n then g (j + 164) else g j := by
  intro n
  induction n with
  | zero => intro j; rw [if_neg (by omega)]; rfl
  | succ n ih =>
    intro j
    show upd (shP g n) n (shP g n (n + 164)) j = _
    by_cases e : j = n
    · rw [e, upd_at, ih, if_neg (by omega), if_pos (by omega)]
    · rw [upd_ne e, ih]
      by_cases c : j < n
      · rw [if_pos c, if_pos (by omega)]
      · rw [if_neg c, if_neg (by omega)]
def updT (T : Nat → SS) (k : Nat) (S : SS) : Nat → SS := fun j => if j = k then S else T j
theorem updT_at (T : Nat → SS) (k : Nat) (S : SS) : updT T k S k = S := if_pos rfl
theorem updT_ne {T : Nat → SS} {k j : Nat} {S : SS} (h : j ≠ k) : updT T k S j = T j := if_neg h
def RHist (n : Nat) (rf : Nat → Option Nat) (k π : Nat → Nat) (T : Nat → SS) (past : Nat → Int32) : Prop :=
  n ≤ 6 ∧ (∀ i, i < 6 → π i < 6) ∧ (∀ i j, i < 6 → j < 6 → π i = π j → i = j) ∧ (∀ i, i < 6 → rf i = some (k (π i))) ∧ ∀ i, i < n → RSx (T (π i)) (fun j => past (164 * i + j))
theorem RHist.rec {n : Nat} {rf : Nat → Option Nat} {k π : Nat → Nat} {T : Nat → SS} {past z : Nat → Int32} {S : SS} (h : RHist n rf k π T past) (hS : RSx S z) {n820 : Nat} (h820 : n820 = 820) :
    ∃ j0 π', j0 < 6 ∧ recT n rf = some (k j0) ∧ RHist (recN n) (recR n rf) k π' (updT T j0 S) (recP past z n n820) := by
  obtain ⟨h1, h2, h3, h4, h5⟩ := h
  by_cases c : n < 6
  · refine ⟨π n, π, h2 n c, by unfold recT; rw [if_pos c]; exact h4 n c, ?_⟩
    unfold recN recR recP
    rw [if_pos c, if_pos c, if_pos c]
    refine ⟨by omega, h2, h3, h4, fun i hi => ?_⟩
    by_cases e : i = n
    · subst e
      rw [updT_at]
      refine hS.cong (fun j hj => ?_)
      show (if 164 * i ≤ 164 * i + j ∧ 164 * i + j < 164 * i + 164 then z (0 + (164 * i + j - 164 * i)) else _) = z j
      rw [if_pos (by omega), show 0 + (164 * i + j - 164 * i) = j by omega]
    · rw [updT_ne (fun q => e (h3 i n (by omega) c q))]
      refine (h5 i (by omega)).cong (fun j hj => ?_)
      show (if 164 * n ≤ 164 * i + j ∧ 164 * i + j < 164 * n + 164 then _ else past (164 * i + j)) = past (164 * i + j)
      rw [if_neg (by omega)]
  · have n6 : n = 6 := by omega
    subst n6
    refine ⟨π 0, fun i => if i + 1 < 6 then π (i + 1) else π 0, h2 0 (by omega), by unfold recT; rw [if_neg c]; exact h4 0 (by omega), ?_⟩
    unfold recN recR recP
    rw [if_neg c, if_neg c, if_neg c]
    refine ⟨by omega, fun i hi => ?_, fun i j hi hj => ?_, fun i hi => ?_, fun i hi => ?_⟩
    · show (if i + 1 < 6 then π (i + 1) else π 0) < 6
      split
      · exact h2 _ (by omega)
      · exact h2 _ (by omega)
    · show (if i + 1 < 6 then π (i + 1) else π 0) = (if j + 1 < 6 then π (j + 1) else π 0) → i = j
      by_cases a : i + 1 < 6
      · rw [if_pos a]
        by_cases b : j + 1 < 6
        · rw [if_pos b]; intro q; have := h3 _ _ a b q; omega
        · rw [if_neg b]; intro q; have := h3 _ _ a (by omega) q; omega
      · rw [if_neg a]
        by_cases b : j + 1 < 6
        · rw [if_pos b]; intro q; have := h3 _ _ (by omega) b q; omega
        · intro _; omega
    · show rotR rf i = some (k (if i + 1 < 6 then π (i + 1) else π 0))
      unfold rotR
      by_cases a : i + 1 < 6
      · rw [if_pos a, if_pos a]; exact h4 _ a
      · rw [if_neg a, if_neg a, if_pos (by omega)]; exact h4 0 (by omega)
    · show RSx (updT T (π 0) S (if i + 1 < 6 then π (i + 1) else π 0)) _
      by_cases a : i + 1 < 6
      · rw [if_pos a, updT_ne (fun q => by have := h3 (i + 1) 0 a (by omega) q; omega)]
        refine (h5 (i + 1) a).cong (fun j hj => ?_)
        show (if 820 ≤ 164 * i + j ∧ 164 * i + j < 820 + 164 then _ else shP past n820 (164 * i + j)) = past (164 * (i + 1) + j)
        rw [if_neg (by omega), shP_at, if_pos (by omega), show 164 * i + j + 164 = 164 * (i + 1) + j by omega]
      · rw [if_neg a, updT_at]
        refine hS.cong (fun j hj => ?_)
        show (if 820 ≤ 164 * i + j ∧ 164 * i + j < 820 + 164 then z (0 + (164 * i + j - 820)) else _) = z j
        rw [if_pos (by omega), show 0 + (164 * i + j - 820) = j by omega]
theorem RHist.undo {n : Nat} {rf : Nat → Option Nat} {k π : Nat → Nat} {T : Nat → SS} {past z : Nat → Int32} (h : RHist n rf k π T past) (h0 : 0 < n) :
    π (n - 1) < 6 ∧ rf (n - 1) = some (k (π (n - 1))) ∧ RHist (n - 1) rf k π T past ∧ RSx (T (π (n - 1))) (cpA past (164 * (n - 1)) z 0 164) := by
  obtain ⟨h1, h2, h3, h4, h5⟩ := h
  refine ⟨h2 _ (by omega), h4 _ (by omega), ⟨by omega, h2, h3, h4, fun i hi => h5 i (by omega)⟩, (h5 (n - 1) (by omega)).cong (fun j hj => ?_)⟩
  show (if 0 ≤ j ∧ j < 0 + 164 then past (164 * (n - 1) + (j - 0)) else _) = past (164 * (n - 1) + j)
  rw [if_pos (by omega), Nat.sub_zero]
def RSlot (us isS : Nat → Int32) (T2 : Nat → SS) (slots : Nat → Int32) : Prop := ∀ k, k < 2 → us k = isS k ∧ (¬ us k = 0 → RSx (T2 k) (fun j => slots (164 * k + j)))
theorem RSlot.save {us isS : Nat → Int32} {T2 : Nat → SS} {slots z : Nat → Int32} {S : SS} (h : RSlot us isS T2 slots) (hS : RSx S z) {k : Nat} (hk : k < 2) : RSlot (upd us k 1) (upd isS k 1) (updT T2 k S) (cpA z 0 slots (164 * k) 164) := by
  intro i hi
  by_cases e : i = k
  · subst e
    refine ⟨by rw [upd_at, upd_at], fun _ => ?_⟩
    rw [updT_at]
    refine hS.cong (fun j hj => ?_)
    show (if 164 * i ≤ 164 * i + j ∧ 164 * i + j < 164 * i + 164 then z (0 + (164 * i + j - 164 * i)) else _) = z j
    rw [if_pos (by omega), show 0 + (164 * i + j - 164 * i) = j by omega]
  · refine ⟨by rw [upd_ne e, upd_ne e]; exact (h i hi).1, fun q => ?_⟩
    rw [upd_ne e] at q
    rw [updT_ne e]
    refine ((h i hi).2 q).cong (fun j hj => ?_)
    show (if 164 * k ≤ 164 * i + j ∧ 164 * i + j < 164 * k + 164 then _ else slots (164 * i + j)) = slots (164 * i + j)
    rw [if_neg (by omega)]
theorem RSlot.restore {us isS : Nat → Int32} {T2 : Nat → SS} {slots z : Nat → Int32} (h : RSlot us isS T2 slots) {k : Nat} (hk : k < 2) (hu : ¬ us k = 0) : RSx (T2 k) (cpA slots (164 * k) z 0 164) := by
  refine ((h k hk).2 hu).cong (fun j hj => ?_)
  show (if 0 ≤ j ∧ j < 0 + 164 then slots (164 * k + (j - 0)) else _) = slots (164 * k + j)
  rw [if_pos (by omega), Nat.sub_zero]
end PAST
