/-! the pad: read both ways -/
section PAD
def posH (g : Nat → Int32) (n : Nat) : Nat → Nat | 0 => 0 | j + 1 => (rpD g n j).2
theorem rpD_pos (g : Nat → Int32) (n j : Nat) : rpD g n j = rhO g n (posH g n j) := by cases j <;> rfl
theorem iaC_in (x : Int32) : iaC x = inC x 49 57 := rfl
theorem due_0 {g : Nat → Int32} {s : Nat} (h : ¬ g s = 114) : dueL g (s + 1) = 0 := by show (if g s = 114 then (1 : Int32) else 0) = 0; rw [if_neg h]
theorem due_1 {g : Nat → Int32} {s : Nat} (h : g s = 114) : dueL g (s + 1) = 1 := by show (if g s = 114 then (1 : Int32) else 0) = 1; rw [if_pos h]
theorem nI_inj60 {a b : Nat} (ha : a ≤ 60) (hb : b ≤ 60) : nI a = nI b ↔ a = b := nI_eq (by omega) (by omega)
theorem ia_val {x : Int32} (h : ¬ iaC x = 0) : ¬ (x - 48) < 0 ∧ x - 48 ≤ 11 ∧ wtC x = x - 48 ∧ ¬ x = 114 ∧ ¬ x - 48 = 11 := by
  have h1 : ¬ x < 49 := fun q => h (by unfold iaC; rw [if_pos q])
  have h2 : ¬ 57 < x := fun q => h (by unfold iaC; rw [if_neg h1, if_pos q])
  have a1 : ¬ x.toInt < 49 := fun q => h1 (Int32.lt_iff_toInt_lt.mpr q)
  have a2 : ¬ 57 < x.toInt := fun q => h2 (Int32.lt_iff_toInt_lt.mpr q)
  obtain ⟨k, hk, rfl⟩ : ∃ k, k < 9 ∧ x = nI (49 + k) := by
    refine ⟨(x.toInt - 49).toNat, by omega, Int32.toInt_inj.mp ?_⟩
    rw [nI_toInt (by omega)]; omega
  have key : ∀ k, k < 9 → ¬ (nI (49 + k) - 48) < 0 ∧ nI (49 + k) - 48 ≤ 11 ∧ ¬ nI (49 + k) = 114 ∧ ¬ nI (49 + k) - 48 = 11 := by decide
  obtain ⟨k1, k2, k3, k4⟩ := key k hk
  exact ⟨k1, k2, by unfold wtC; rw [if_neg h], k3, k4⟩
def rhK (g : Nat → Int32) (n s : Nat) : Prop :=
  (s = n ∧ rhO g n s = (-6, s)) ∨ (s < n ∧ okL g s = 0 ∧ rhO g n s = (-6, s)) ∨
  (s < n ∧ ¬ okL g s = 0 ∧ ¬ g s = 114 ∧ rhO g n s = (wtC (g s), s + 1) ∧ ¬ wtC (g s) < 0 ∧ wtC (g s) ≤ 11) ∨
  (s < n ∧ ¬ okL g s = 0 ∧ g s = 114 ∧ s + 1 = n ∧ rhO g n s = (-6, s + 1)) ∨
  (s < n ∧ ¬ okL g s = 0 ∧ g s = 114 ∧ s + 1 < n ∧ iaC (g (s + 1)) = 0 ∧ rhO g n s = (-6, s + 1)) ∨
  (s < n ∧ ¬ okL g s = 0 ∧ g s = 114 ∧ s + 1 < n ∧ ¬ iaC (g (s + 1)) = 0 ∧ rhO g n s = (g (s + 1) - 48, s + 2))
theorem rh_k {g : Nat → Int32} {n s : Nat} (hn : n ≤ 60) (hs : s ≤ n) (hd : dueL g s = 0) : rhK g n s := by
  have ok : okL g s = bhC (g s) := by unfold okL; rw [if_pos hd]
  unfold rhK
  rw [ok]
  by_cases c : s = n
  · exact Or.inl ⟨c, by unfold rhO; rw [if_pos (by rw [c])]⟩
  have c0 : ¬ nI s = nI n := fun q => c ((nI_inj60 (by omega) (by omega)).mp q)
  refine Or.inr ?_
  have lt : s < n := by omega
  by_cases c1 : g s = 115
  · exact Or.inr (Or.inl ⟨lt, by rw [c1]; decide, by rw [c1]; decide, by unfold rhO; rw [if_neg c0, if_pos c1, c1]; rfl, by rw [c1]; decide, by rw [c1]; decide⟩)
  by_cases c2 : g s = 102
  · exact Or.inr (Or.inl ⟨lt, by rw [c2]; decide, by rw [c2]; decide, by unfold rhO; rw [if_neg c0, if_neg c1, if_pos c2, c2]; rfl, by rw [c2]; decide, by rw [c2]; decide⟩)
  by_cases c3 : g s = 100
  · exact Or.inr (Or.inl ⟨lt, by rw [c3]; decide, by rw [c3]; decide, by unfold rhO; rw [if_neg c0, if_neg c1, if_neg c2, if_pos c3, c3]; rfl, by rw [c3]; decide, by rw [c3]; decide⟩)
  by_cases c4 : g s = 114
  · refine Or.inr (Or.inr ?_)
    have hb : ¬ bhC (g s) = 0 := by rw [c4]; decide
    by_cases c5 : s + 1 = n
    · exact Or.inl ⟨lt, hb, c4, c5, by unfold rhO; rw [if_neg c0, if_neg c1, if_neg c2, if_neg c3, if_pos c4, if_pos (by rw [c5])]⟩
    have c50 : ¬ nI (s + 1) = nI n := fun q => c5 ((nI_inj60 (by omega) (by omega)).mp q)
    by_cases c6 : iaC (g (s + 1)) = 0
    · exact Or.inr (Or.inl ⟨lt, hb, c4, by omega, c6, by unfold rhO; rw [if_neg c0, if_neg c1, if_neg c2, if_neg c3, if_pos c4, if_neg c50, if_pos (show inC (g (s + 1)) 49 57 = 0 from c6)]⟩)
    · exact Or.inr (Or.inr ⟨lt, hb, c4, by omega, c6, by unfold rhO; rw [if_neg c0, if_neg c1, if_neg c2, if_neg c3, if_pos c4, if_neg c50, if_neg (show ¬ inC (g (s + 1)) 49 57 = 0 from c6)]⟩)
  · exact Or.inl ⟨lt, by unfold bhC; rw [if_neg c4, if_neg c1, if_neg c2, if_neg c3], by unfold rhO; rw [if_neg c0, if_neg c1, if_neg c2, if_neg c3, if_neg c4]⟩
theorem ok_due {g : Nat → Int32} {s : Nat} (h : g s = 114) : okL g (s + 1) = iaC (g (s + 1)) := by
  unfold okL; rw [due_1 h, if_neg (by decide)]
theorem ff_end {g : Nat → Int32} {n : Nat} (hn : n ≤ 60) (h0 : 0 < n) (hd : dueL g n = 0) : ffE g n = -6 := by
  unfold ffE; rw [if_pos hd, if_neg (show ¬ nI n = 0 from fun q => absurd ((nI_inj60 (a := n) (b := 0) hn (by omega)).mp q) (by omega))]
theorem ff_mid {g : Nat → Int32} {n s : Nat} (h : s < n) (ho : ¬ okL g s = 0) : ffG g n (n - s) s = ffG g n (n - (s + 1)) (s + 1) := by
  rw [show n - s = (n - (s + 1)) + 1 by omega, ffG_s, if_neg ho]
theorem ff_bad {g : Nat → Int32} {n s : Nat} (h : s < n) (ho : okL g s = 0) : ffG g n (n - s) s = nI s := by
  rw [show n - s = (n - (s + 1)) + 1 by omega, ffG_s, if_pos ho]
theorem ff_zero {g : Nat → Int32} {n s : Nat} (h : s = n) : ffG g n (n - s) s = ffE g n := by subst h; rw [Nat.sub_self]; rfl
def rpK (g : Nat → Int32) (n j : Nat) (R : Int32 × Nat × Nat) (F : Int32) : Prop :=
  (R.1 = 0 ∧ F = nI R.2.2) ∨ (R.1 = 1 ∧ F = -6 ∧ posH g n R.2.1 = n ∧ j ≤ R.2.1 ∧ ∀ i, j ≤ i → i < R.2.1 → ¬ (rpD g n i).1 = -6)
theorem rp_ff {g : Nat → Int32} {n : Nat} (hn : n ≤ 60) : ∀ q j, posH g n j ≤ n → dueL g (posH g n j) = 0 → n - posH g n j ≤ q → (n = 0 ∨ posH g n j < n) → rpK g n j (rpG g n q j) (ffG g n (n - posH g n j) (posH g n j)) := by
  intro q
  induction q with
  | zero =>
    intro j hs hd hq h0
    have e0 : posH g n j = n := by omega
    have n0 : n = 0 := by omega
    refine Or.inl ⟨rfl, ?_⟩
    show _ = nI (rpD g n j).2
    rw [rpD_pos, ff_zero e0]
    have : rhO g n (posH g n j) = (-6, posH g n j) := by unfold rhO; rw [if_pos (by rw [e0])]
    rw [this, e0]
    unfold ffE
    rw [if_pos (by rw [← e0]; exact hd), if_pos (by rw [n0]; decide)]
  | succ q ih =>
    intro j hs hd hq h0
    have eR : rpG g n (q + 1) j = if (rpD g n j).1 = -6 then (0, j, (rpD g n j).2) else if nI (rpD g n j).2 = nI n then (1, j + 1, (rpD g n j).2) else rpG g n q (j + 1) := rfl
    have hp1 : posH g n (j + 1) = (rpD g n j).2 := rfl
    rw [eR]
    have go : ∀ (v : Int32) (s1 : Nat), rpD g n j = (v, s1) → ¬ v = -6 → posH g n j < s1 → s1 ≤ n → dueL g s1 = 0 → ffG g n (n - posH g n j) (posH g n j) = ffG g n (n - s1) s1 →
        rpK g n j (if (rpD g n j).1 = -6 then (0, j, (rpD g n j).2) else if nI (rpD g n j).2 = nI n then (1, j + 1, (rpD g n j).2) else rpG g n q (j + 1)) (ffG g n (n - posH g n j) (posH g n j)) := by
      intro v s1 e hv hlt hle hdu hF
      rw [hF]
      have hp2 : posH g n (j + 1) = s1 := by rw [hp1, e]
      rw [if_neg (by rw [e]; exact hv)]
      by_cases c : s1 = n
      · rw [if_pos (by rw [e, c])]
        refine Or.inr ⟨rfl, ?_, ?_, Nat.le_succ _, fun i h1 h2 => ?_⟩
        · rw [ff_zero c, ff_end hn (by omega) (by rw [← c]; exact hdu)]
        · exact hp2.trans c
        · have h2 : i < j + 1 := h2
          rw [show i = j by omega, e]; exact hv
      · rw [if_neg (fun z => c ((nI_inj60 (by omega) (by omega)).mp (by rw [← z, e])))]
        have h3 := ih (j + 1) (by omega) (by rw [hp2]; exact hdu) (by omega) (Or.inr (by omega))
        rw [hp2] at h3
        rcases h3 with h3 | ⟨h3, h4, h5, h6, h7⟩
        · exact Or.inl h3
        · refine Or.inr ⟨h3, h4, h5, by omega, fun i h8 h9 => ?_⟩
          by_cases c2 : i = j
          · rw [c2, e]; exact hv
          · exact h7 i (by omega) h9
    have bad : ∀ s1 : Nat, rpD g n j = (-6, s1) → ffG g n (n - posH g n j) (posH g n j) = nI s1 → rpK g n j (if (rpD g n j).1 = -6 then (0, j, (rpD g n j).2) else if nI (rpD g n j).2 = nI n then (1, j + 1, (rpD g n j).2) else rpG g n q (j + 1)) (ffG g n (n - posH g n j) (posH g n j)) := by
      intro s1 e hF
      rw [if_pos (by rw [e]), hF, e]
      exact Or.inl ⟨rfl, rfl⟩
    rcases rh_k hn hs hd with ⟨h1, h2⟩ | ⟨h1, h2, h3⟩ | ⟨h1, h2, h3, h4, h5, h6⟩ | ⟨h1, h2, h3, h4, h5⟩ | ⟨h1, h2, h3, h4, h5, h6⟩ | ⟨h1, h2, h3, h4, h5, h6⟩
    · refine bad _ ((rpD_pos g n j).trans h2) ?_
      rw [ff_zero h1, h1]
      have n0 : n = 0 := by omega
      unfold ffE
      rw [if_pos (by rw [← h1]; exact hd), if_pos (by rw [n0]; decide)]
    · exact bad _ ((rpD_pos g n j).trans h3) (ff_bad h1 h2)
    · refine go _ _ ((rpD_pos g n j).trans h4) (fun e => h5 (by rw [e]; decide)) (by omega) (by omega) (due_0 h3) (ff_mid h1 h2)
    · refine bad _ ((rpD_pos g n j).trans h5) ?_
      rw [ff_mid h1 h2, ff_zero h4]
      unfold ffE
      rw [if_neg (by rw [← h4, due_1 h3]; decide), h4]
    · refine bad _ ((rpD_pos g n j).trans h6) ?_
      rw [ff_mid h1 h2, ff_bad h4 (by rw [ok_due h3]; exact h5)]
    · obtain ⟨v1, v2, v3, v4, v5⟩ := ia_val h5
      refine go _ _ ((rpD_pos g n j).trans h6) (fun e => v1 (by rw [e]; decide)) (by omega) (by omega) (due_0 v4) ?_
      rw [ff_mid h1 h2, ff_mid h4 (by rw [ok_due h3]; exact h5)]
theorem fault_eq {g : Nat → Int32} {n : Nat} (hn : n ≤ 60) : rpK g n 0 (rpG g n n 0) (ffG g n n 0) := by
  have := rp_ff hn n 0 (Nat.zero_le _) rfl (Nat.sub_le _ _) (by show n = 0 ∨ 0 < n; omega) (g := g)
  rwa [show posH g n 0 = 0 from rfl, Nat.sub_zero] at this
end PAD
