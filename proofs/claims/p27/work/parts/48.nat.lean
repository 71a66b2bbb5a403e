/-! a street in plain numbers: what it holds, its bounds, what its questions answer -/
section NAT
abbrev NN : Type := (Nat → Nat) × (Nat → Nat) × (Nat → Nat) × (Nat → Nat) × (Nat → Nat) × (Nat → Nat) × Nat × Nat × Nat
abbrev n_se (N : NN) : Nat → Nat := N.1
abbrev n_br (N : NN) : Nat → Nat := N.2.1
abbrev n_wa (N : NN) : Nat → Nat := N.2.2.1
abbrev n_sh (N : NN) : Nat → Nat := N.2.2.2.1
abbrev n_ow (N : NN) : Nat → Nat := N.2.2.2.2.1
abbrev n_pd (N : NN) : Nat → Nat := N.2.2.2.2.2.1
abbrev n_fz (N : NN) : Nat := N.2.2.2.2.2.2.1
abbrev n_dk (N : NN) : Nat := N.2.2.2.2.2.2.2.1
abbrev n_dy (N : NN) : Nat := N.2.2.2.2.2.2.2.2
def Rn (S : SS) (N : NN) : Prop := (∀ k, k < 4 → s_se S k = nI (n_se N k)) ∧ (∀ p, p < 12 → s_br S p = nI (n_br N p)) ∧ (∀ p, p < 12 → s_wa S p = nI (n_wa N p)) ∧ (∀ w, w < 6 → s_sh S w = nI (n_sh N w)) ∧ (∀ w, w < 6 → s_ow S w = nI (n_ow N w)) ∧ (∀ j, j < 72 → s_pd S j = nI (n_pd N j)) ∧ s_fz S = nI (n_fz N) ∧ s_dk S = nI (n_dk N) ∧ s_dy S = nI (n_dy N) ∧ s_fe S = smD (s_wa S) 12 + s_dr S + s_dn S ∧ smD (s_cb S) 6 = smD (s_cr S) 12
def Bd (B : Nat) (N : NN) : Prop := n_se N 0 ≤ 20 ∧ n_se N 1 ≤ 20 ∧ (1 ≤ n_se N 2 ∧ n_se N 2 ≤ 99) ∧ (1 ≤ n_se N 3 ∧ n_se N 3 ≤ 30) ∧ (∀ p, p < 12 → n_wa N p ≤ n_br N p ∧ 1 ≤ n_br N p ∧ n_br N p ≤ 60) ∧ (∀ w, w < 6 → n_sh N w ≤ 3) ∧ (∀ w, w < 6 → n_ow N w ≤ 2880 * B) ∧ (∀ j, j < 72 → n_pd N j ≤ 30) ∧ n_fz N < 4096 ∧ n_dk N < 4096 ∧ n_dy N ≤ B
variable {S : SS} {N : NN} {B : Nat}
theorem Rn.se (h : Rn S N) : ∀ k, k < 4 → s_se S k = nI (n_se N k) := h.1
theorem Rn.br (h : Rn S N) : ∀ p, p < 12 → s_br S p = nI (n_br N p) := h.2.1
theorem Rn.wa (h : Rn S N) : ∀ p, p < 12 → s_wa S p = nI (n_wa N p) := h.2.2.1
theorem Rn.sh (h : Rn S N) : ∀ w, w < 6 → s_sh S w = nI (n_sh N w) := h.2.2.2.1
theorem Rn.ow (h : Rn S N) : ∀ w, w < 6 → s_ow S w = nI (n_ow N w) := h.2.2.2.2.1
theorem Rn.pd (h : Rn S N) : ∀ j, j < 72 → s_pd S j = nI (n_pd N j) := h.2.2.2.2.2.1
theorem Rn.fz (h : Rn S N) : s_fz S = nI (n_fz N) := h.2.2.2.2.2.2.1
theorem Rn.dk (h : Rn S N) : s_dk S = nI (n_dk N) := h.2.2.2.2.2.2.2.1
theorem Rn.dy (h : Rn S N) : s_dy S = nI (n_dy N) := h.2.2.2.2.2.2.2.2.1
theorem Rn.fe (h : Rn S N) : s_fe S = smD (s_wa S) 12 + s_dr S + s_dn S := h.2.2.2.2.2.2.2.2.2.1
theorem Rn.cc (h : Rn S N) : smD (s_cb S) 6 = smD (s_cr S) 12 := h.2.2.2.2.2.2.2.2.2.2
theorem Bd.s0 (h : Bd B N) : n_se N 0 ≤ 20 := h.1
theorem Bd.s1 (h : Bd B N) : n_se N 1 ≤ 20 := h.2.1
theorem Bd.s2 (h : Bd B N) : 1 ≤ n_se N 2 ∧ n_se N 2 ≤ 99 := h.2.2.1
theorem Bd.s3 (h : Bd B N) : 1 ≤ n_se N 3 ∧ n_se N 3 ≤ 30 := h.2.2.2.1
theorem Bd.wb (h : Bd B N) : ∀ p, p < 12 → n_wa N p ≤ n_br N p ∧ 1 ≤ n_br N p ∧ n_br N p ≤ 60 := h.2.2.2.2.1
theorem Bd.sh (h : Bd B N) : ∀ w, w < 6 → n_sh N w ≤ 3 := h.2.2.2.2.2.1
theorem Bd.ow (h : Bd B N) : ∀ w, w < 6 → n_ow N w ≤ 2880 * B := h.2.2.2.2.2.2.1
theorem Bd.pd (h : Bd B N) : ∀ j, j < 72 → n_pd N j ≤ 30 := h.2.2.2.2.2.2.2.1
theorem Bd.fz (h : Bd B N) : n_fz N < 4096 := h.2.2.2.2.2.2.2.2.1
theorem Bd.dk (h : Bd B N) : n_dk N < 4096 := h.2.2.2.2.2.2.2.2.2.1
theorem Bd.dy (h : Bd B N) : n_dy N ≤ B := h.2.2.2.2.2.2.2.2.2.2
theorem Bd.up (h : Bd B N) : Bd (B + 1) N := ⟨h.s0, h.s1, h.s2, h.s3, h.wb, h.sh, fun w hw => Nat.le_trans (h.ow w hw) (by omega), h.pd, h.fz, h.dk, Nat.le_trans h.dy (by omega)⟩
def whyN (N : NN) (w p x : Nat) : Nat := if (n_dk N).testBit p then 1 else if 0 < n_pd N (w * 12 + p) then 0 else if (n_fz N).testBit p then (if n_wa N p / 5 < 1 then 0 else 3) else if n_wa N p / 5 ≤ 1 + 2 * x then 0 else 2
def mayB (N : NN) (w p : Nat) : Bool := decide (whyN N w p (n_sh N w) = 0)
def perB (N : NN) (w p : Nat) : Bool := decide (0 < n_pd N (w * 12 + p))
def perN (N : NN) (w : Nat) : Nat := mkN (perB N w) 12
def mayN (N : NN) (w : Nat) : Nat := mkN (mayB N w) 12
def hldN (N : NN) (p : Nat) : Nat := mkN (fun w => perB N w p) 6
def pmN (N : NN) : Nat := snN (fun w => popN (perN N w) 12) 6
theorem bz_N {m p : Nat} (hm : m < 4096) (hp : p < 12) : bt1 (nI m) p = 0 ↔ m.testBit p = false := by
  rw [bt_N m hm p hp]
  unfold bN
  cases m.testBit p with
  | true => exact ⟨fun h => absurd h (by decide), fun h => by cases h⟩
  | false => exact ⟨fun _ => rfl, fun _ => rfl⟩
theorem e_p0 (h : Rn S N) {p : Nat} (hp : p < 12) : pudA S p 0 = nI (n_br N p) := h.br p hp
theorem e_p1 (h : Rn S N) {p : Nat} (hp : p < 12) : pudA S p 1 = nI (n_wa N p) := h.wa p hp
theorem wa5 (h : Rn S N) (b : Bd B N) {p : Nat} (hp : p < 12) : s_wa S p / 5 = nI (n_wa N p / 5) := by
  have := b.wb p hp
  rw [h.wa p hp]
  exact pk_div (d := 5) (by omega) (by decide) (by decide)
theorem e_p2 (h : Rn S N) (b : Bd B N) {p : Nat} (hp : p < 12) : pudA S p 2 = nI (n_wa N p / 5) := wa5 h b hp
theorem e_p3 (h : Rn S N) (b : Bd B N) {p : Nat} (hp : p < 12) : pudA S p 3 = nI (bN (n_fz N) p) := by
  show (if bt1 (s_fz S) p = 0 then 0 else 1) = _
  rw [h.fz]
  cases c : (n_fz N).testBit p with
  | true => rw [if_neg (fun q => by rw [(bz_N b.fz hp).mp q] at c; cases c), bN_t c]; rfl
  | false => rw [if_pos ((bz_N b.fz hp).mpr c), bN_f c]; rfl
theorem e_p4 (h : Rn S N) (b : Bd B N) {p : Nat} (hp : p < 12) : pudA S p 4 = nI (bN (n_dk N) p) := by
  show (if bt1 (s_dk S) p = 0 then 0 else 1) = _
  rw [h.dk]
  cases c : (n_dk N).testBit p with
  | true => rw [if_neg (fun q => by rw [(bz_N b.dk hp).mp q] at c; cases c), bN_t c]; rfl
  | false => rw [if_pos ((bz_N b.dk hp).mpr c), bN_f c]; rfl
theorem has_0 (h : Rn S N) (b : Bd B N) {w p : Nat} (hw : w < 6) (hp : p < 12) : hasP (s_pd S) w p = 0 ↔ perB N w p = false := by
  have h1 := h.pd (w * 12 + p) (by omega)
  have h2 := b.pd (w * 12 + p) (by omega)
  unfold hasP perB
  rw [h1]
  by_cases c : n_pd N (w * 12 + p) = 0
  · rw [c, if_pos (by decide)]; simp
  · rw [if_neg (nI_nle (by omega) (by omega))]
    simp only [decide_eq_false_iff_not]
    exact ⟨fun q => absurd q (by decide), fun q => absurd (by omega) q⟩
theorem e_p6 (h : Rn S N) (b : Bd B N) {p : Nat} (hp : p < 12) : pudA S p 6 = nI (hldN N p) := mkD_N 6 (by omega) (fun w hw => has_0 h b hw hp)
theorem e_w0 (h : Rn S N) {w : Nat} (hw : w < 6) : walA S w 0 = nI (n_sh N w) := h.sh w hw
theorem e_w1 (h : Rn S N) {w : Nat} (hw : w < 6) : walA S w 1 = nI (n_ow N w) := h.ow w hw
theorem per_e (h : Rn S N) (b : Bd B N) {w : Nat} (hw : w < 6) : mkD (hasP (s_pd S) w) 12 = nI (perN N w) := mkD_N 12 (by omega) (fun p hp => has_0 h b hw hp)
theorem e_w4 (h : Rn S N) (b : Bd B N) {w : Nat} (hw : w < 6) : walA S w 4 = nI (perN N w) := per_e h b hw
theorem e_rsn (h : Rn S N) (b : Bd B N) {w p x : Nat} (hw : w < 6) (hp : p < 12) (hx : x ≤ 3) : rsnA S w p (nI x) = nI (whyN N w p x) := by
  have h1 := has_0 h b hw hp
  have h2 := b.wb p hp
  have e2 : (1 : Int32) + 2 * nI x = nI (1 + 2 * x) := by
    show nI 1 + nI 2 * nI x = _
    rw [pk_mul, nI_add]
  unfold rsnA whyN
  rw [h.dk, h.fz, wa5 h b hp, e2]
  cases c1 : (n_dk N).testBit p with
  | true => rw [if_neg (fun q => by rw [(bz_N b.dk hp).mp q] at c1; cases c1), if_pos rfl]; rfl
  | false =>
    rw [if_pos ((bz_N b.dk hp).mpr c1), if_neg Bool.false_ne_true]
    by_cases c2 : 0 < n_pd N (w * 12 + p)
    · rw [if_neg (fun q => by have := h1.mp q; unfold perB at this; simp [c2] at this), if_pos c2]; rfl
    · rw [if_pos (h1.mpr (by unfold perB; simp [c2])), if_neg c2]
      cases c3 : (n_fz N).testBit p with
      | true =>
        rw [if_neg (fun q => by rw [(bz_N b.fz hp).mp q] at c3; cases c3), if_pos rfl]
        by_cases c4 : n_wa N p / 5 < 1
        · rw [if_pos (show nI (n_wa N p / 5) < (1 : Int32) from (nI_ltI (b := 1) (by omega) (by omega)).mpr c4), if_pos c4]; rfl
        · rw [if_neg (show ¬ nI (n_wa N p / 5) < (1 : Int32) from fun q => c4 ((nI_ltI (b := 1) (by omega) (by omega)).mp q)), if_neg c4]; rfl
      | false =>
        rw [if_pos ((bz_N b.fz hp).mpr c3), if_neg Bool.false_ne_true]
        by_cases c4 : n_wa N p / 5 ≤ 1 + 2 * x
        · rw [if_pos ((nI_leI (by omega) (by omega)).mpr c4), if_pos c4]; rfl
        · rw [if_neg (fun q => c4 ((nI_leI (by omega) (by omega)).mp q)), if_neg c4]; rfl
theorem whyN_lt (w p x : Nat) : whyN N w p x < 4 := by
  unfold whyN
  repeat (first | split | omega)
theorem e_why (h : Rn S N) (b : Bd B N) {w p : Nat} (hw : w < 6) (hp : p < 12) : rsnA S w p (s_sh S w) = nI (whyN N w p (n_sh N w)) := by
  rw [h.sh w hw]; exact e_rsn h b hw hp (b.sh w hw)
theorem may_0 (h : Rn S N) (b : Bd B N) {w p : Nat} (hw : w < 6) (hp : p < 12) : mayC S w p = 0 ↔ mayB N w p = false := by
  have hl := whyN_lt (N := N) w p (n_sh N w)
  unfold mayC mayB
  rw [e_why h b hw hp]
  by_cases c : whyN N w p (n_sh N w) = 0
  · rw [c, if_pos (by decide)]
    exact ⟨fun q => absurd q (by decide), fun q => by simp at q⟩
  · rw [if_neg (nI_ne0 (by omega) (by omega))]; simp [c]
theorem e_w5 (h : Rn S N) (b : Bd B N) {w : Nat} (hw : w < 6) : walA S w 5 = nI (mayN N w) := mkD_N 12 (by omega) (fun p hp => may_0 h b hw hp)
theorem e_hold (h : Rn S N) (b : Bd B N) {w p : Nat} (hw : w < 6) (hp : p < 12) : hldA S w p = if n_pd N (w * 12 + p) = 0 then (-6) else nI (n_pd N (w * 12 + p)) := by
  have h2 := b.pd (w * 12 + p) (by omega)
  unfold hldA
  rw [h.pd (w * 12 + p) (by omega)]
  by_cases c : n_pd N (w * 12 + p) = 0
  · rw [c, if_pos rfl, if_pos (by decide)]
  · rw [if_neg c, if_neg (nI_nle (by omega) (by omega))]
theorem e_c5 (h : Rn S N) : smD (s_wa S) 12 = nI (snN (n_wa N) 12) := smD_N 12 h.wa
theorem e_c11 (h : Rn S N) (b : Bd B N) : pmA S = nI (pmN N) := smD_N 6 (fun w hw => by
  show bcN (mkD (hasP (s_pd S) w) 12) = nI (popN (perN N w) 12)
  rw [per_e h b hw, bc_N (perN N w) (mkN_lt12 _ (Nat.le_refl _))])
theorem e_c12 (h : Rn S N) : smD (s_ow S) 6 = nI (snN (n_ow N) 6) := smD_N 6 h.ow
theorem pm_two (N : NN) : snN (fun p => popN (hldN N p) 12) 12 = pmN N := by
  have e1 : pmN N = snN (fun w => snN (fun p => if perB N w p then 1 else 0) 12) 6 := snN_congr 6 (fun w _ => pop_mk _ (Nat.le_refl _))
  have e2 : snN (fun p => popN (hldN N p) 12) 12 = snN (fun p => snN (fun w => if perB N w p then 1 else 0) 6) 12 := snN_congr 12 (fun p _ => pop_mk _ (by omega))
  rw [e1, e2, snN_swap]
theorem e_dry (h : Rn S N) (b : Bd B N) {p : Nat} (hp : p < 12) : (n_wa N p = 0 ∧ dryA S p = nI 0) ∨ (0 < n_wa N p ∧ n_se N 1 = 0 ∧ dryA S p = (-6)) ∨ (0 < n_wa N p ∧ 0 < n_se N 1 ∧ ∃ d, 0 < d ∧ d < 1000 ∧ dryA S p = nI d) := by
  have h2 := b.wb p hp
  have h3 := b.s1
  unfold dryA
  rw [h.wa p hp, h.se 1 (by omega), h.fz]
  by_cases c : n_wa N p = 0
  · refine Or.inl ⟨c, ?_⟩
    rw [c]; rfl
  · rw [if_neg (nI_ne0 (by omega) (by omega))]
    by_cases c2 : n_se N 1 = 0
    · refine Or.inr (Or.inl ⟨by omega, c2, ?_⟩)
      rw [c2]; rfl
    · refine Or.inr (Or.inr ⟨by omega, by omega, ?_⟩)
      have e1 : (nI (n_wa N p) + nI (n_se N 1) - 1) / nI (n_se N 1) = nI ((n_wa N p + n_se N 1 - 1) / n_se N 1) := by
        rw [nI_add, show (1 : Int32) = nI 1 from rfl, pk_sub (by omega), pk_div (by omega) (by omega) (by omega)]
      have l1 : (n_wa N p + n_se N 1 - 1) / n_se N 1 ≤ n_wa N p + n_se N 1 - 1 := Nat.div_le_self _ _
      have l2 : 0 < (n_wa N p + n_se N 1 - 1) / n_se N 1 := Nat.div_pos (by omega) (by omega)
      rw [if_pos (show (0 : Int32) < nI (n_se N 1) from (nI_ltI (a := 0) (by omega) (by omega)).mpr (by omega)), e1]
      by_cases c3 : bt1 (nI (n_fz N)) p = 0
      · rw [if_pos c3]; exact ⟨_, l2, by omega, rfl⟩
      · rw [if_neg c3, nI_1]; exact ⟨_, by omega, by omega, rfl⟩
theorem whyN_up {w p x y : Nat} (hxy : x ≤ y) (h : whyN N w p x = 0) : whyN N w p y = 0 := by
  unfold whyN at h ⊢
  cases c1 : (n_dk N).testBit p with
  | true => rw [c1, if_pos rfl] at h; cases h
  | false =>
    rw [c1, if_neg Bool.false_ne_true] at h
    rw [if_neg Bool.false_ne_true]
    by_cases c2 : 0 < n_pd N (w * 12 + p)
    · rw [if_pos c2]
    · rw [if_neg c2] at h ⊢
      cases c3 : (n_fz N).testBit p with
      | true => rw [c3, if_pos rfl] at h; rw [if_pos rfl]; exact h
      | false =>
        rw [c3, if_neg Bool.false_ne_true] at h
        rw [if_neg Bool.false_ne_true]
        by_cases c4 : n_wa N p / 5 ≤ 1 + 2 * x
        · rw [if_pos (by omega)]
        · rw [if_neg c4] at h; cases h
/-- every puddle is open to these shoes -/
def allO (N : NN) (w x : Nat) : Prop := ∀ p, p < 12 → whyN N w p x = 0
theorem lsA_1 (h : Rn S N) (b : Bd B N) {w x : Nat} (hw : w < 6) (hx : x ≤ 3) (ha : allO N w x) : lsA S w x = 1 :=
  allZ_1 _ 12 0 (fun p _ hp => by show rsnA S w p (nI x) = 0; rw [e_rsn h b hw (by omega) hx, ha p (by omega)]; rfl)
theorem lsA_0 (h : Rn S N) (b : Bd B N) {w x : Nat} (hw : w < 6) (hx : x ≤ 3) (ha : ¬ allO N w x) : lsA S w x = 0 := by
  obtain ⟨p, hp⟩ := Classical.not_forall.mp ha
  obtain ⟨h1, h2⟩ := Classical.not_imp.mp hp
  have hl := whyN_lt (N := N) w p x
  exact allZ_0 _ 12 0 p (Nat.zero_le _) (by omega) (by show ¬ rsnA S w p (nI x) = 0; rw [e_rsn h b hw h1 hx]; exact nI_ne0 (by omega) (by omega))
theorem ls_N (h : Rn S N) (b : Bd B N) {w : Nat} (hw : w < 6) : ∀ k i, i + k = 4 → (lsG (lsA S w) k i = (-6) ∧ ∀ x, i ≤ x → x ≤ 3 → ¬ allO N w x) ∨ ∃ j, i ≤ j ∧ j ≤ 3 ∧ lsG (lsA S w) k i = nI j ∧ allO N w j ∧ ∀ x, i ≤ x → x < j → ¬ allO N w x := by
  intro k
  induction k with
  | zero => intro i hi; exact Or.inl ⟨rfl, fun x h1 h2 => by omega⟩
  | succ k ih =>
    intro i hi
    rw [lsG_s]
    by_cases c : allO N w i
    · rw [if_neg (by rw [lsA_1 h b hw (by omega) c]; decide)]
      exact Or.inr ⟨i, Nat.le_refl _, by omega, rfl, c, fun x h1 h2 => by omega⟩
    · rw [if_pos (lsA_0 h b hw (by omega) c)]
      rcases ih (i + 1) (by omega) with ⟨h1, h2⟩ | ⟨j, h1, h2, h3, h4, h5⟩
      · refine Or.inl ⟨h1, fun x g1 g2 => ?_⟩
        by_cases e : x = i
        · subst e; exact c
        · exact h2 x (by omega) g2
      · refine Or.inr ⟨j, by omega, h2, h3, h4, fun x g1 g2 => ?_⟩
        by_cases e : x = i
        · subst e; exact c
        · exact h5 x (by omega) g2
theorem may_all {w : Nat} : mayN N w = 4095 ↔ allO N w (n_sh N w) := by
  unfold mayN
  rw [mk_full]
  constructor
  · intro h p hp; have := h p hp; unfold mayB at this; exact of_decide_eq_true this
  · intro h p hp; unfold mayB; exact decide_eq_true (h p hp)
theorem e_ls (h : Rn S N) (b : Bd B N) {w : Nat} (hw : w < 6) : (lsG (lsA S w) 4 0 = (-6) ∧ mayN N w ≠ 4095) ∨ (∃ k, k ≤ 3 ∧ lsG (lsA S w) 4 0 = nI k ∧ mayN N w = 4095 ∧ k ≤ n_sh N w) ∨ (∃ k, k ≤ 3 ∧ lsG (lsA S w) 4 0 = nI k ∧ mayN N w ≠ 4095 ∧ n_sh N w < k) := by
  have hs := b.sh w hw
  rcases ls_N h b hw 4 0 rfl with ⟨h1, h2⟩ | ⟨k, h1, h2, h3, h4, h5⟩
  · exact Or.inl ⟨h1, fun q => h2 _ (Nat.zero_le _) hs (may_all.mp q)⟩
  · by_cases c : k ≤ n_sh N w
    · exact Or.inr (Or.inl ⟨k, h2, h3, may_all.mpr (fun p hp => whyN_up c (h4 p hp)), c⟩)
    · exact Or.inr (Or.inr ⟨k, h2, h3, fun q => h5 _ (Nat.zero_le _) (by omega) (may_all.mp q), by omega⟩)
theorem e_lw (h : Rn S N) (b : Bd B N) {w : Nat} (hw : w < 6) {n12 : Nat} (h12 : n12 = 12) : ∃ L, L ≤ popN (mayN N w) 12 ∧ (lwL (mkD (mayC S w) 12) n12).2.1 = nI L := by
  have e : mkD (mayC S w) 12 = nI (mayN N w) := e_w5 h b hw
  rw [e]
  subst h12
  obtain ⟨r, L, -, e2, -, h2⟩ := lw_N (m := mayN N w) (mkN_lt12 _ (Nat.le_refl _)) 12 (Nat.le_refl _)
  exact ⟨L, h2, e2⟩
theorem may_bit {w p : Nat} (hp : p < 12) : bN (mayN N w) p = if whyN N w p (n_sh N w) = 0 then 1 else 0 := by
  unfold bN mayN
  rw [mkN_bit]
  unfold mayB
  by_cases c : whyN N w p (n_sh N w) = 0 <;> simp [c, hp]
theorem per_bit {w p : Nat} (hp : p < 12) : bN (perN N w) p = if n_pd N (w * 12 + p) = 0 then 0 else 1 := by
  unfold bN perN
  rw [mkN_bit]
  unfold perB
  by_cases c : n_pd N (w * 12 + p) = 0
  · simp [c, hp]
  · simp [c, hp]
theorem hld_bit {w p : Nat} (hw : w < 6) : bN (hldN N p) w = if n_pd N (w * 12 + p) = 0 then 0 else 1 := by
  unfold bN hldN
  rw [mkN_bit]
  unfold perB
  by_cases c : n_pd N (w * 12 + p) = 0
  · simp [c, hw]
  · simp [c, hw]
/-- the six ways in which a walker and a puddle may stand to each other -/
theorem six (N : NN) (w : Nat) {p : Nat} (hp : p < 12) (hw : w < 6) : (whyN N w p (n_sh N w) = 1 ∧ bN (mayN N w) p = 0 ∧ bN (n_dk N) p = 1 ∨ whyN N w p (n_sh N w) = 0 ∧ bN (mayN N w) p = 1 ∧ bN (n_dk N) p = 0 ∨ n_pd N (w * 12 + p) = 0 ∧ (whyN N w p (n_sh N w) = 2 ∧ bN (mayN N w) p = 0 ∧ bN (n_dk N) p = 0 ∧ bN (n_fz N) p = 0 ∧ 2 * n_sh N w + 1 < n_wa N p / 5 ∨ whyN N w p (n_sh N w) = 3 ∧ bN (mayN N w) p = 0 ∧ bN (n_dk N) p = 0 ∧ bN (n_fz N) p = 1 ∧ 0 < n_wa N p / 5)) ∧ (n_pd N (w * 12 + p) = 0 ∧ bN (perN N w) p = 0 ∧ bN (hldN N p) w = 0 ∨ 0 < n_pd N (w * 12 + p) ∧ bN (perN N w) p = 1 ∧ bN (hldN N p) w = 1) := by
  rw [may_bit hp, per_bit hp, hld_bit hw]
  have h2 : n_pd N (w * 12 + p) = 0 ∧ (if n_pd N (w * 12 + p) = 0 then 0 else 1) = 0 ∧ (if n_pd N (w * 12 + p) = 0 then 0 else 1) = 0 ∨ 0 < n_pd N (w * 12 + p) ∧ (if n_pd N (w * 12 + p) = 0 then 0 else 1) = 1 ∧ (if n_pd N (w * 12 + p) = 0 then 0 else 1) = 1 := by
    by_cases c : n_pd N (w * 12 + p) = 0
    · exact Or.inl ⟨c, if_pos c, if_pos c⟩
    · exact Or.inr ⟨by omega, if_neg c, if_neg c⟩
  refine ⟨?_, h2⟩
  cases c1 : (n_dk N).testBit p with
  | true =>
    have e : whyN N w p (n_sh N w) = 1 := by unfold whyN; rw [c1, if_pos rfl]
    exact Or.inl ⟨e, by rw [e]; rfl, bN_t c1⟩
  | false =>
    by_cases c2 : 0 < n_pd N (w * 12 + p)
    · have e : whyN N w p (n_sh N w) = 0 := by unfold whyN; rw [c1, if_neg Bool.false_ne_true, if_pos c2]
      exact Or.inr (Or.inl ⟨e, by rw [e]; rfl, bN_f c1⟩)
    · cases c3 : (n_fz N).testBit p with
      | true =>
        by_cases c4 : n_wa N p / 5 < 1
        · have e : whyN N w p (n_sh N w) = 0 := by unfold whyN; rw [c1, if_neg Bool.false_ne_true, if_neg c2, c3, if_pos rfl, if_pos c4]
          exact Or.inr (Or.inl ⟨e, by rw [e]; rfl, bN_f c1⟩)
        · have e : whyN N w p (n_sh N w) = 3 := by unfold whyN; rw [c1, if_neg Bool.false_ne_true, if_neg c2, c3, if_pos rfl, if_neg c4]
          exact Or.inr (Or.inr ⟨by omega, Or.inr ⟨e, by rw [e]; rfl, bN_f c1, bN_t c3, by omega⟩⟩)
      | false =>
        by_cases c4 : n_wa N p / 5 ≤ 1 + 2 * n_sh N w
        · have e : whyN N w p (n_sh N w) = 0 := by unfold whyN; rw [c1, if_neg Bool.false_ne_true, if_neg c2, c3, if_neg Bool.false_ne_true, if_pos c4]
          exact Or.inr (Or.inl ⟨e, by rw [e]; rfl, bN_f c1⟩)
        · have e : whyN N w p (n_sh N w) = 2 := by unfold whyN; rw [c1, if_neg Bool.false_ne_true, if_neg c2, c3, if_neg Bool.false_ne_true, if_neg c4]
          exact Or.inr (Or.inr ⟨by omega, Or.inl ⟨e, by rw [e]; rfl, bN_f c1, bN_f c3, by omega⟩⟩)
theorem may_dk (w : Nat) : ((mayN N w) &&& (n_dk N)) = 0 := and_0 (fun q h1 h2 => by
  unfold mayN at h1
  rw [mkN_bit] at h1
  have h3 := (Bool.and_eq_true_iff.mp h1).2
  unfold mayB whyN at h3
  rw [h2, if_pos rfl] at h3
  exact absurd h3 (by decide))
theorem per_ok (w : Nat) : ((nI (perN N w) &&& (nI (n_dk N) ^^^ (-1))) &&& (nI (mayN N w) ^^^ (-1))) = nI 0 := mask_0 (fun q h1 h2 h3 => by
  unfold perN at h1
  rw [mkN_bit] at h1
  obtain ⟨h4, h5⟩ := Bool.and_eq_true_iff.mp h1
  have h6 : 0 < n_pd N (w * 12 + q) := of_decide_eq_true h5
  unfold mayN at h3
  rw [mkN_bit, h4] at h3
  have : whyN N w q (n_sh N w) = 0 := by unfold whyN; rw [h2, if_neg Bool.false_ne_true, if_pos h6]
  unfold mayB at h3
  rw [this] at h3
  exact absurd h3 (by decide))
end NAT
