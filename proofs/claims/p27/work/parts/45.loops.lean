/-! what the class's loops come to -/
def age1 (x : Int32) : Int32 := if x ≤ 0 then x else x - 1
theorem agL_at (pd : Nat → Int32) {p : Nat} (hp : p < 12) : ∀ n j, agL pd p n j = if j % 12 = p ∧ j / 12 < n then age1 (pd j) else pd j := by
  intro n
  induction n with
  | zero => intro j; rw [if_neg (by omega)]; rfl
  | succ n ih =>
    intro j
    have e0 : agL pd p (n + 1) = if agL pd p n (n * 12 + p) ≤ 0 then agL pd p n else upd (agL pd p n) (n * 12 + p) (agL pd p n (n * 12 + p) - 1) := rfl
    have e1 : agL pd p n (n * 12 + p) = pd (n * 12 + p) := by rw [ih, if_neg (by omega)]
    rw [e0, e1]
    by_cases hj : j = n * 12 + p
    · subst hj
      rw [if_pos (show (n * 12 + p) % 12 = p ∧ (n * 12 + p) / 12 < n + 1 by omega)]
      unfold age1
      by_cases c : pd (n * 12 + p) ≤ 0
      · rw [if_pos c, if_pos c, e1]
      · rw [if_neg c, if_neg c, upd_at]
    · have e2 : (if pd (n * 12 + p) ≤ 0 then agL pd p n else upd (agL pd p n) (n * 12 + p) (pd (n * 12 + p) - 1)) j = agL pd p n j := by
        by_cases c : pd (n * 12 + p) ≤ 0
        · rw [if_pos c]
        · rw [if_neg c, upd_ne hj]
      rw [e2, ih]
      by_cases c : j % 12 = p ∧ j / 12 < n
      · rw [if_pos c, if_pos (by omega)]
      · rw [if_neg c, if_neg (by omega)]
theorem edL_pd (S : SS) {n6 : Nat} (h6 : n6 = 6) : ∀ i, i ≤ 12 → ∀ j, j < 72 → (edL S n6 i).2 j = if j % 12 < i ∧ bt1 (s_fz S) (j % 12) = 0 then age1 (s_pd S j) else s_pd S j := by
  intro i
  induction i with
  | zero => intro _ j _; rw [if_neg (by omega)]; rfl
  | succ i ih =>
    intro hi j hj
    have e0 : edL S n6 (i + 1) = if bt1 (s_fz S) i = 0 then (if s_wa S i < s_se S 2 then ((edL S n6 i).1, agL (edL S n6 i).2 i n6) else ((edL S n6 i).1 ||| ((1 : Int32) <<< (nI i &&& 31)), agL (edL S n6 i).2 i n6)) else edL S n6 i := rfl
    rw [e0]
    by_cases c : bt1 (s_fz S) i = 0
    · rw [if_pos c]
      have e2 : (if s_wa S i < s_se S 2 then ((edL S n6 i).1, agL (edL S n6 i).2 i n6) else ((edL S n6 i).1 ||| ((1 : Int32) <<< (nI i &&& 31)), agL (edL S n6 i).2 i n6)).2 = agL (edL S n6 i).2 i n6 := by split <;> rfl
      rw [e2, agL_at _ (by omega), ih (by omega) j hj]
      by_cases c2 : j % 12 = i
      · rw [if_pos ⟨c2, by omega⟩, if_neg (by omega), if_pos ⟨by omega, by rw [c2]; exact c⟩]
      · rw [if_neg (fun q => c2 q.1)]
        by_cases c3 : j % 12 < i ∧ bt1 (s_fz S) (j % 12) = 0
        · rw [if_pos c3, if_pos ⟨by omega, c3.2⟩]
        · rw [if_neg c3, if_neg (fun q => c3 ⟨by omega, q.2⟩)]
    · rw [if_neg c, ih (by omega) j hj]
      by_cases c3 : j % 12 < i ∧ bt1 (s_fz S) (j % 12) = 0
      · rw [if_pos c3, if_pos ⟨by omega, c3.2⟩]
      · refine (if_neg c3).trans (if_neg (fun q => ?_)).symm
        by_cases c2 : j % 12 = i
        · exact c (by rw [← c2]; exact q.2)
        · exact c3 ⟨by omega, q.2⟩
theorem upd_upd (f : Nat → Int32) (k : Nat) (x y : Int32) : upd (upd f k x) k y = upd f k y := by funext j; unfold upd; split <;> rfl
theorem crS_frm (S : SS) (w f t : Nat) : ∀ i, s_se (crS S w f t i) = s_se S ∧ s_br (crS S w f t i) = s_br S ∧ s_wa (crS S w f t i) = s_wa S ∧ s_sh (crS S w f t i) = s_sh S ∧ s_pa (crS S w f t i) = s_pa S ∧ s_pd (crS S w f t i) = s_pd S ∧ s_fz (crS S w f t i) = s_fz S ∧ s_dk (crS S w f t i) = s_dk S ∧ s_dy (crS S w f t i) = s_dy S ∧ s_fe (crS S w f t i) = s_fe S ∧ s_dr (crS S w f t i) = s_dr S ∧ s_dn (crS S w f t i) = s_dn S := by
  intro i
  induction i with
  | zero => exact ⟨rfl, rfl, rfl, rfl, rfl, rfl, rfl, rfl, rfl, rfl, rfl, rfl⟩
  | succ i ih => exact ih
theorem crS_duty (S : SS) (w f t i q : Nat) : dutyA (crS S w f t i) q = dutyA S q := by
  obtain ⟨e1, -, e3, -, -, -, e7, -⟩ := crS_frm S w f t i
  unfold dutyA; rw [e1, e3, e7]
theorem crS_ow (S : SS) (w f t : Nat) : ∀ i, s_ow (crS S w f t i) = upd (s_ow S) w (s_ow S w + smD (fun k => dutyA S (plc k f t)) i) := by
  intro i
  induction i with
  | zero => show s_ow S = upd (s_ow S) w (s_ow S w + 0); rw [Int32.add_zero, upd_self]
  | succ i ih =>
    show upd (s_ow (crS S w f t i)) w (s_ow (crS S w f t i) w + dutyA (crS S w f t i) (plc i f t)) = upd (s_ow S) w (s_ow S w + (smD (fun k => dutyA S (plc k f t)) i + dutyA S (plc i f t)))
    rw [crS_duty, ih, upd_upd, upd_at, Int32.add_assoc]
theorem crS_cb (S : SS) (w f t : Nat) : ∀ i, s_cb (crS S w f t i) = upd (s_cb S) w (s_cb S w + nI i) := by
  intro i
  induction i with
  | zero => show s_cb S = upd (s_cb S) w (s_cb S w + 0); rw [Int32.add_zero, upd_self]
  | succ i ih =>
    show upd (s_cb (crS S w f t i)) w (s_cb (crS S w f t i) w + 1) = upd (s_cb S) w (s_cb S w + nI (i + 1))
    rw [ih, upd_upd, upd_at, Int32.add_assoc, ← nI_succ]
theorem SS_eta (S : SS) : S = (s_se S, s_br S, s_wa S, s_cr S, s_sh S, s_ow S, s_pa S, s_cb S, s_pd S, s_fz S, s_dk S, s_dy S, s_fe S, s_dr S, s_dn S) := rfl
theorem crS_eq (S : SS) (w f t i : Nat) : crS S w f t i = (s_se S, s_br S, s_wa S, s_cr (crS S w f t i), s_sh S, upd (s_ow S) w (s_ow S w + smD (fun k => dutyA S (plc k f t)) i), s_pa S, upd (s_cb S) w (s_cb S w + nI i), s_pd S, s_fz S, s_dk S, s_dy S, s_fe S, s_dr S, s_dn S) := by
  obtain ⟨e1, e2, e3, e4, e5, e6, e7, e8, e9, e10, e11, e12⟩ := crS_frm S w f t i
  have e : crS S w f t i = (s_se (crS S w f t i), s_br (crS S w f t i), s_wa (crS S w f t i), s_cr (crS S w f t i), s_sh (crS S w f t i), s_ow (crS S w f t i), s_pa (crS S w f t i), s_cb (crS S w f t i), s_pd (crS S w f t i), s_fz (crS S w f t i), s_dk (crS S w f t i), s_dy (crS S w f t i), s_fe (crS S w f t i), s_dr (crS S w f t i), s_dn (crS S w f t i)) := SS_eta _
  rw [e1, e2, e3, e4, e5, e6, e7, e8, e9, e10, e11, e12, crS_ow S w f t i, crS_cb S w f t i] at e
  exact e
theorem allZ_1 (g : Nat → Int32) : ∀ n i, (∀ k, i ≤ k → k < i + n → g k = 0) → allZ g n i = 1 := by
  intro n
  induction n with
  | zero => intro i _; rfl
  | succ n ih =>
    intro i h
    show (if g i = 0 then allZ g n (i + 1) else 0) = _
    rw [if_pos (h i (Nat.le_refl _) (by omega))]
    exact ih (i + 1) (fun k h1 h2 => h k (by omega) (by omega))
theorem allZ_0 (g : Nat → Int32) : ∀ n i k, i ≤ k → k < i + n → ¬ g k = 0 → allZ g n i = 0 := by
  intro n
  induction n with
  | zero => intro i k h1 h2 _; omega
  | succ n ih =>
    intro i k h1 h2 h3
    show (if g i = 0 then allZ g n (i + 1) else 0) = _
    by_cases c : g i = 0
    · rw [if_pos c]
      exact ih (i + 1) k (by by_cases e : k = i
                             · subst e; exact absurd c h3
                             · omega) (by omega) h3
    · rw [if_neg c]
theorem smD_congr {f g : Nat → Int32} : ∀ n, (∀ k, k < n → f k = g k) → smD f n = smD g n := by
  intro n
  induction n with
  | zero => intro _; rfl
  | succ n ih => intro h; show smD f n + f n = smD g n + g n; rw [ih (fun k hk => h k (by omega)), h n (by omega)]
theorem stp_le1 (g : Nat → Int32) : ∀ n i, stp g n i ≤ i + n := by
  intro n
  induction n with
  | zero => intro i; exact Nat.le_refl _
  | succ n ih => intro i; show (if g i = 0 then i else stp g n (i + 1)) ≤ _; split
                 · omega
                 · have := ih (i + 1); omega
