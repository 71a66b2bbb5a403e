/-! read: the pad's hours, one after the other: alike -/
section READ
variable {m d D : Nat} {S : SS} {z : Nat → Int32}
theorem tdL_at (g : Nat → Int32) (n : Nat) (td : Nat → Int32) : ∀ c j, j < c → tdL g n td c j = (rpD g n j).1 := by
  intro c
  induction c with
  | zero => intro j hj; omega
  | succ c ih =>
    intro j hj
    show upd (tdL g n td c) c (rpD g n c).1 j = _
    by_cases e : j = c
    · rw [e, upd_at]
    · rw [upd_ne e]; exact ih j (by omega)
/-- how many of the first j hours are 11 -/
def dCt (td : Nat → Int32) : Nat → Nat | 0 => 0 | j + 1 => if td j = 11 then dCt td j + 1 else dCt td j
theorem dCt_le (td : Nat → Int32) : ∀ j, dCt td j ≤ j := by
  intro j
  induction j with
  | zero => exact Nat.le_refl _
  | succ j ih => show (if td j = 11 then dCt td j + 1 else dCt td j) ≤ _; split <;> omega
theorem mdL_ct (td : Nat → Int32) : ∀ j, mdL td j = nI (dCt td j) := by
  intro j
  induction j with
  | zero => rfl
  | succ j ih =>
    show (if td j = 11 then mdL td j + 1 else mdL td j + 0) = nI (if td j = 11 then dCt td j + 1 else dCt td j)
    by_cases c : td j = 11
    · rw [if_pos c, if_pos c, ih, nI_succ]
    · rw [if_neg c, if_neg c, ih, Int32.add_zero]
theorem lps_r (S : SS) (n6 n12 : Nat) : lpS (wtC 114) S n6 n12 = S := by
  unfold lpS
  rw [if_neg (show ¬ wtC 114 = 0 by decide), if_neg (show ¬ wtC 114 = 10 by decide), if_neg (show ¬ wtC 114 = 11 by decide), if_pos (show wtC 114 ≤ 0 by decide)]
theorem RSa.hours (h : RSa m d D S z) (hm : m < 4096) (hd : d < 4096) {n6 : Nat} (h6 : n6 = 6) {g : Nat → Int32} {n : Nat} (hn : n ≤ 60) {td : Nat → Int32} {c : Nat} (htd : ∀ j, j < c → td j = (rpD g n j).1) (hok : ∀ j, j < c → ¬ (rpD g n j).1 = -6) :
    ∀ j, j ≤ c → posH g n j ≤ n ∧ dueL g (posH g n j) = 0 ∧ j ≤ posH g n j ∧ dyL g (posH g n j) = nI (dCt td j) ∧ ∃ m1 d1, m1 < 4096 ∧ d1 < 4096 ∧ RSa m1 d1 (D + dCt td j) (rdS S g n6 12 (posH g n j)) (rzL z td 12 72 j) := by
  intro j
  induction j with
  | zero => intro _; exact ⟨Nat.zero_le _, rfl, Nat.le_refl _, rfl, m, d, hm, hd, h⟩
  | succ j ih =>
    intro hj
    obtain ⟨p1, p2, p3, p4, m1, d1, hm1, hd1, p5⟩ := ih (by omega)
    have hno := hok j (by omega)
    have htj := htd j (by omega)
    have hp1 : posH g n (j + 1) = (rpD g n j).2 := rfl
    have ez : rzL z td 12 72 (j + 1) = zLp (td j) (rzL z td 12 72 j) 12 72 := rfl
    have eD : dCt td (j + 1) = if td j = 11 then dCt td j + 1 else dCt td j := rfl
    have eS : ∀ i, rdS S g n6 12 (i + 1) = lpS (wtC (g i)) (rdS S g n6 12 i) n6 12 := fun _ => rfl
    have eY : ∀ i, dyL g (i + 1) = if wtC (g i) = 11 then dyL g i + 1 else dyL g i := fun _ => rfl
    rcases rh_k hn p1 p2 with ⟨h1, h2⟩ | ⟨h1, h2, h3⟩ | ⟨h1, h2, h3, h4, h5, h6'⟩ | ⟨h1, h2, h3, h4, h5⟩ | ⟨h1, h2, h3, h4, h5, h6'⟩ | ⟨h1, h2, h3, h4, h5, h6'⟩
    · exact absurd (by rw [rpD_pos, h2]) hno
    · exact absurd (by rw [rpD_pos, h3]) hno
    · have e : rpD g n j = (wtC (g (posH g n j)), posH g n j + 1) := (rpD_pos g n j).trans h4
      have et : td j = wtC (g (posH g n j)) := by rw [htj, e]
      rw [hp1, e, ez, eD, et]
      refine ⟨h1, due_0 h3, by show j + 1 ≤ posH g n j + 1; omega, ?_, ?_⟩
      · show dyL g (posH g n j + 1) = _
        rw [eY, p4]
        by_cases c : wtC (g (posH g n j)) = 11
        · rw [if_pos c, if_pos c, nI_succ]
        · rw [if_neg c, if_neg c]
      · obtain ⟨m2, d2, a1, a2, a3⟩ := p5.pass hm1 hd1 h5 h6' h6
        refine ⟨m2, d2, a1, a2, ?_⟩
        show RSa m2 d2 _ (rdS S g n6 12 (posH g n j + 1)) _
        rw [eS]
        by_cases c : wtC (g (posH g n j)) = 11
        · rw [if_pos c] at a3 ⊢; exact a3
        · rw [if_neg c] at a3 ⊢; exact a3
    · exact absurd (by rw [rpD_pos, h5]) hno
    · exact absurd (by rw [rpD_pos, h6']) hno
    · obtain ⟨v1, v2, v3, v4, v5⟩ := ia_val h5
      have e : rpD g n j = (g (posH g n j + 1) - 48, posH g n j + 2) := (rpD_pos g n j).trans h6'
      have et : td j = g (posH g n j + 1) - 48 := by rw [htj, e]
      rw [hp1, e, ez, eD, et, if_neg v5]
      refine ⟨h4, due_0 v4, by show j + 1 ≤ posH g n j + 2; omega, ?_, ?_⟩
      · show dyL g (posH g n j + 1 + 1) = _
        rw [eY, eY, h3, v3, if_neg v5, if_neg (by decide), p4]
      · obtain ⟨m2, d2, a1, a2, a3⟩ := p5.pass hm1 hd1 v1 v2 h6
        refine ⟨m2, d2, a1, a2, ?_⟩
        show RSa m2 d2 _ (rdS S g n6 12 (posH g n j + 1 + 1)) _
        rw [eS, eS, h3, lps_r, v3]
        rw [if_neg v5] at a3
        exact a3
end READ
