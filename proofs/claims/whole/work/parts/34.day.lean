/-! the day's end, a walk, an hour: alike -/
section DAY
variable {m d D : Nat} {S : SS} {z : Nat → Int32}
theorem RSa.u_pds (h : RSa m d D S z) {pd' z' : Nat → Int32} (h1 : ∀ j, j < 92 → z' j = z j) (h2 : ∀ w, w < 6 → ∀ p, p < 12 → pd' (w * 12 + p) = z' (92 + 12 * w + p)) : RSa m d D (s_se S, s_br S, s_wa S, s_cr S, s_sh S, s_ow S, s_pa S, s_cb S, pd', s_fz S, s_dk S, s_dy S, s_fe S, s_dr S, s_dn S) z' :=
  ⟨fun q hq => (h.se q hq).trans (h1 _ (by omega)).symm, h.dy, (h1 _ (by omega)).trans h.z4, h.fe.trans (h1 _ (by omega)).symm, h.dr.trans (h1 _ (by omega)).symm, h.dn.trans (h1 _ (by omega)).symm,
   fun q hq => (h.br q hq).trans (h1 _ (by omega)).symm, fun q hq => (h.wa q hq).trans (h1 _ (by omega)).symm, fun q hq => (h.cr q hq).trans (h1 _ (by omega)).symm,
   h.fz, fun q hq => (h1 _ (by omega)).trans (h.fb q hq), h.dk, fun q hq => (h1 _ (by omega)).trans (h.db q hq),
   fun q hq => (h.sh q hq).trans (h1 _ (by omega)).symm, fun q hq => (h.ow q hq).trans (h1 _ (by omega)).symm, fun q hq => (h.pa q hq).trans (h1 _ (by omega)).symm, fun q hq => (h.cb q hq).trans (h1 _ (by omega)).symm, h2, by rw [h1 1 (by omega)]; exact h.nn⟩
def age1 (x : Int32) : Int32 := if x ≤ 0 then x else x - 1
theorem agL_at (pd : Nat → Int32) {p : Nat} (hp : p < 12) : ∀ n j, agL pd p n j = if j % 12 = p ∧ j / 12 < n then age1 (pd j) else pd j := by
  intro n
  induction n with
  | zero => intro j; rw [if_neg (by omega)]; rfl
  | succ n ih =>
    intro j
    have e0 : agL pd p (n + 1) = if agL pd p n (n * 12 + p) ≤ 0 then agL pd p n else upd (agL pd p n) (n * 12 + p) (agL pd p n (n * 12 + p) - 1) := rfl
    have e1 : agL pd p n (n * 12 + p) = pd (n * 12 + p) := by rw [ih, if_neg (by omega)]
    rw [e0, e1]
    by_cases hj : j = n * 12 + p
    · subst hj
      rw [if_pos (show (n * 12 + p) % 12 = p ∧ (n * 12 + p) / 12 < n + 1 by omega)]
      unfold age1
      by_cases c : pd (n * 12 + p) ≤ 0
      · rw [if_pos c, if_pos c, e1]
      · rw [if_neg c, if_neg c, upd_at]
    · have e2 : (if pd (n * 12 + p) ≤ 0 then agL pd p n else upd (agL pd p n) (n * 12 + p) (pd (n * 12 + p) - 1)) j = agL pd p n j := by
        by_cases c : pd (n * 12 + p) ≤ 0
        · rw [if_pos c]
        · rw [if_neg c, upd_ne hj]
      rw [e2, ih]
      by_cases c : j % 12 = p ∧ j / 12 < n
      · rw [if_pos c, if_pos (by omega)]
      · rw [if_neg c, if_neg (by omega)]
theorem edL_pd (S : SS) {n6 : Nat} (h6 : n6 = 6) : ∀ i, i ≤ 12 → ∀ j, j < 72 → (edL S n6 i).2 j = if j % 12 < i ∧ bt1 (s_fz S) (j % 12) = 0 then age1 (s_pd S j) else s_pd S j := by
  intro i
  induction i with
  | zero => intro _ j _; rw [if_neg (by omega)]; rfl
  | succ i ih =>
    intro hi j hj
    have e0 : edL S n6 (i + 1) = if bt1 (s_fz S) i = 0 then (if s_wa S i < s_se S 2 then ((edL S n6 i).1, agL (edL S n6 i).2 i n6) else ((edL S n6 i).1 ||| ((1 : Int32) <<< (nI i &&& 31)), agL (edL S n6 i).2 i n6)) else edL S n6 i := rfl
    rw [e0]
    by_cases c : bt1 (s_fz S) i = 0
    · rw [if_pos c]
      have e2 : (if s_wa S i < s_se S 2 then ((edL S n6 i).1, agL (edL S n6 i).2 i n6) else ((edL S n6 i).1 ||| ((1 : Int32) <<< (nI i &&& 31)), agL (edL S n6 i).2 i n6)).2 = agL (edL S n6 i).2 i n6 := by split <;> rfl
      rw [e2, agL_at _ (by omega), ih (by omega) j hj]
      by_cases c2 : j % 12 = i
      · rw [if_pos ⟨c2, by omega⟩, if_neg (by omega), if_pos ⟨by omega, by rw [c2]; exact c⟩]
      · rw [if_neg (fun q => c2 q.1)]
        by_cases c3 : j % 12 < i ∧ bt1 (s_fz S) (j % 12) = 0
        · rw [if_pos c3, if_pos ⟨by omega, c3.2⟩]
        · rw [if_neg c3, if_neg (fun q => c3 ⟨by omega, q.2⟩)]
    · rw [if_neg c, ih (by omega) j hj]
      by_cases c3 : j % 12 < i ∧ bt1 (s_fz S) (j % 12) = 0
      · rw [if_pos c3, if_pos ⟨by omega, c3.2⟩]
      · refine (if_neg c3).trans (if_neg (fun q => ?_)).symm
        by_cases c2 : j % 12 = i
        · exact c (by rw [← c2]; exact q.2)
        · exact c3 ⟨by omega, q.2⟩
theorem zE2_at (z : Nat → Int32) : ∀ n, n ≤ 72 → ∀ j, zE2 z n j = if (92 ≤ j ∧ j < 92 + n) ∧ zFz z ((j - 92) % 12) = 0 then age1 (z j) else z j := by
  intro n
  induction n with
  | zero => intro _ j; rw [if_neg (by omega)]; rfl
  | succ k ih =>
    intro hk j
    have e0 : zE2 z (k + 1) = if zE2 z k (92 + k) ≤ 0 then upd (zE2 z k) (92 + k) (zE2 z k (92 + k) - 0) else if zFz (zE2 z k) (k % 12) = 0 then upd (zE2 z k) (92 + k) (zE2 z k (92 + k) - 1) else upd (zE2 z k) (92 + k) (zE2 z k (92 + k) - 0) := rfl
    have e1 : zE2 z k (92 + k) = z (92 + k) := by rw [ih (by omega), if_neg (by omega)]
    have e9 : zE2 z k (8 + 5 * (k % 12) + 2) = z (8 + 5 * (k % 12) + 2) := (ih (by omega) _).trans (if_neg (by omega))
    have e2 : zFz (zE2 z k) (k % 12) = zFz z (k % 12) := by unfold zFz; rw [e9]
    rw [e0, e2, Int32.sub_zero, upd_self, e1]
    by_cases hj : j = 92 + k
    · subst hj
      rw [show 92 + k - 92 = k by omega]
      by_cases c : z (92 + k) ≤ 0
      · rw [if_pos c, e1]; unfold age1; rw [if_pos c]; split <;> rfl
      · rw [if_neg c]
        by_cases c2 : zFz z (k % 12) = 0
        · rw [if_pos c2, upd_at, if_pos ⟨by omega, c2⟩]; unfold age1; rw [if_neg c]
        · rw [if_neg c2, e1, if_neg (fun q => c2 q.2)]
    · have e3 : (if z (92 + k) ≤ 0 then zE2 z k else if zFz z (k % 12) = 0 then upd (zE2 z k) (92 + k) (z (92 + k) - 1) else zE2 z k) j = zE2 z k j := by
        split
        · rfl
        · split
          · exact upd_ne hj
          · rfl
      rw [e3, ih (by omega)]
      by_cases c : (92 ≤ j ∧ j < 92 + k) ∧ zFz z ((j - 92) % 12) = 0
      · rw [if_pos c, if_pos ⟨by omega, c.2⟩]
      · rw [if_neg c, if_neg (fun q => c ⟨by omega, q.2⟩)]
theorem RSa.day' (h : RSa m d D S z) (hm : m < 4096) (hd : d < 4096) (n6 : Nat) : ∀ i, i ≤ 12 → ∃ a e, a < 4096 ∧ e < 4096 ∧ (edL S n6 i).1 = nI e ∧ RSa m a D (s_se S, s_br S, s_wa S, s_cr S, s_sh S, s_ow S, s_pa S, s_cb S, s_pd S, s_fz S, nI a, s_dy S, s_fe S, s_dr S, s_dn S) (zE1 z i) ∧ ∀ q, q < 12 → (bitz a q = if q < i then bitz e q else bitz d q) ∧ (i ≤ q → bitz e q = 0) := by
  intro i
  induction i with
  | zero => intro _; exact ⟨d, 0, hd, by decide, rfl, by rw [← h.dk]; exact h, fun q hq => ⟨by rw [if_neg (by omega)], fun _ => by unfold bitz; rw [Nat.zero_testBit]; rfl⟩⟩
  | succ i ih =>
    intro hi
    obtain ⟨a, e, h1, h2, h3, h4, h5⟩ := ih (by omega)
    have eS : edL S n6 (i + 1) = if bt1 (s_fz S) i = 0 then (if s_wa S i < s_se S 2 then ((edL S n6 i).1, agL (edL S n6 i).2 i n6) else ((edL S n6 i).1 ||| ((1 : Int32) <<< (nI i &&& 31)), agL (edL S n6 i).2 i n6)) else edL S n6 i := rfl
    have ez : zE1 z (i + 1) = if zE1 z i (8 + 5 * i + 1) < zE1 z i 2 then upd (zE1 z i) (8 + 5 * i + 3) 0 else if zFz (zE1 z i) i = 0 then upd (zE1 z i) (8 + 5 * i + 3) 1 else upd (zE1 z i) (8 + 5 * i + 3) 0 := rfl
    have w1 : s_wa S i = zE1 z i (8 + 5 * i + 1) := h4.wa i (by omega)
    have w2 : s_se S 2 = zE1 z i 2 := h4.se 2 (by omega)
    rw [eS, ez, h4.zF (p := i) (by omega), h.bF hm (p := i) (by omega), w1, w2]
    have off : ∃ a' e', a' < 4096 ∧ e' < 4096 ∧ (edL S n6 i).1 = nI e' ∧ RSa m a' D (s_se S, s_br S, s_wa S, s_cr S, s_sh S, s_ow S, s_pa S, s_cb S, s_pd S, s_fz S, nI a', s_dy S, s_fe S, s_dr S, s_dn S) (upd (zE1 z i) (8 + 5 * i + 3) 0) ∧ ∀ q, q < 12 → (bitz a' q = if q < i + 1 then bitz e' q else bitz d q) ∧ (i + 1 ≤ q → bitz e' q = 0) := by
      refine ⟨clrB a i, e, clrB_lt h1, h2, h3, h4.u_dk (by omega) (fun q hq => bitz_clr hq), fun q hq => ⟨?_, fun hq2 => (h5 q hq).2 (by omega)⟩⟩
      rw [bitz_clr hq]
      by_cases c : q = i
      · rw [if_pos c, if_pos (by omega), c, (h5 i (by omega)).2 (Nat.le_refl _)]
      · rw [if_neg c, (h5 q hq).1]
        by_cases c2 : q < i
        · rw [if_pos c2, if_pos (by omega)]
        · rw [if_neg c2, if_neg (by omega)]
    by_cases c : zE1 z i (8 + 5 * i + 1) < zE1 z i 2
    · rw [if_pos c, if_pos c]
      by_cases c2 : bitz m i = 0
      · rw [if_pos c2]; exact off
      · rw [if_neg c2]; exact off
    · rw [if_neg c, if_neg c]
      by_cases c2 : bitz m i = 0
      · rw [if_pos c2, if_pos c2]
        refine ⟨setB a i, setB e i, setB_lt h1 (by omega), setB_lt h2 (by omega), by rw [← or1_nI e h2 i (by omega), ← h3], h4.u_dk (by omega) (fun q hq => bitz_set), fun q hq => ⟨?_, fun hq2 => ?_⟩⟩
        · rw [bitz_set, bitz_set]
          by_cases c3 : q = i
          · rw [if_pos c3, if_pos (by omega), if_pos c3]
          · rw [if_neg c3, if_neg c3, (h5 q hq).1]
            by_cases c4 : q < i
            · rw [if_pos c4, if_pos (by omega)]
            · rw [if_neg c4, if_neg (by omega)]
        · rw [bitz_set, if_neg (by omega)]; exact (h5 q hq).2 (by omega)
      · rw [if_neg c2, if_neg c2]; exact off
theorem RSa.day (h : RSa m d D S z) (hm : m < 4096) (hd : d < 4096) {n6 : Nat} (h6 : n6 = 6) : ∃ a, a < 4096 ∧ RSa m a (D + 1) (s_se S, s_br S, s_wa S, s_cr S, s_sh S, s_ow S, s_pa S, s_cb S, (edL S n6 12).2, s_fz S, (edL S n6 12).1, s_dy S + 1, s_fe S, s_dr S, s_dn S) (zEd z 12 72) := by
  obtain ⟨a, e, h1, h2, h3, h4, h5⟩ := h.day' hm hd n6 12 (Nat.le_refl _)
  have ae : a = e := bitz_ext h1 h2 (fun q hq => by rw [(h5 q hq).1, if_pos hq])
  subst ae
  have g1 := h4.u_dy
  refine ⟨a, h1, ?_⟩
  rw [h3]
  unfold zEd
  refine g1.u_pds (fun j hj => by rw [zE2_at _ 72 (Nat.le_refl _), if_neg (by omega)]) (fun w hw p hp => ?_)
  rw [edL_pd S h6 12 (Nat.le_refl _) (w * 12 + p) (by omega), zE2_at _ 72 (Nat.le_refl _), show (w * 12 + p) % 12 = p by omega, show (92 + 12 * w + p - 92) % 12 = p by omega, g1.zF hp, h.bF hm hp, ← g1.pd w hw p hp]
  by_cases c : bitz m p = 0
  · rw [if_pos ⟨hp, c⟩, if_pos ⟨by omega, c⟩]
  · rw [if_neg (fun q => c q.2), if_neg (fun q => c q.2)]
theorem upd_upd (f : Nat → Int32) (k : Nat) (x y : Int32) : upd (upd f k x) k y = upd f k y := by funext j; unfold upd; split <;> rfl
theorem crS_frm (S : SS) (w f t : Nat) : ∀ i, s_se (crS S w f t i) = s_se S ∧ s_br (crS S w f t i) = s_br S ∧ s_wa (crS S w f t i) = s_wa S ∧ s_sh (crS S w f t i) = s_sh S ∧ s_pa (crS S w f t i) = s_pa S ∧ s_pd (crS S w f t i) = s_pd S ∧ s_fz (crS S w f t i) = s_fz S ∧ s_dk (crS S w f t i) = s_dk S ∧ s_dy (crS S w f t i) = s_dy S ∧ s_fe (crS S w f t i) = s_fe S ∧ s_dr (crS S w f t i) = s_dr S ∧ s_dn (crS S w f t i) = s_dn S := by
  intro i
  induction i with
  | zero => exact ⟨rfl, rfl, rfl, rfl, rfl, rfl, rfl, rfl, rfl, rfl, rfl, rfl⟩
  | succ i ih => exact ih
theorem crS_duty (S : SS) (w f t i q : Nat) : dutyA (crS S w f t i) q = dutyA S q := by
  obtain ⟨e1, -, e3, -, -, -, e7, -⟩ := crS_frm S w f t i
  unfold dutyA; rw [e1, e3, e7]
theorem crS_ow (S : SS) (w f t : Nat) : ∀ i, s_ow (crS S w f t i) = upd (s_ow S) w (s_ow S w + smD (fun k => dutyA S (plc k f t)) i) := by
  intro i
  induction i with
  | zero => show s_ow S = upd (s_ow S) w (s_ow S w + 0); rw [Int32.add_zero, upd_self]
  | succ i ih =>
    show upd (s_ow (crS S w f t i)) w (s_ow (crS S w f t i) w + dutyA (crS S w f t i) (plc i f t)) = upd (s_ow S) w (s_ow S w + (smD (fun k => dutyA S (plc k f t)) i + dutyA S (plc i f t)))
    rw [crS_duty, ih, upd_upd, upd_at, Int32.add_assoc]
theorem crS_cb (S : SS) (w f t : Nat) : ∀ i, s_cb (crS S w f t i) = upd (s_cb S) w (s_cb S w + nI i) := by
  intro i
  induction i with
  | zero => show s_cb S = upd (s_cb S) w (s_cb S w + 0); rw [Int32.add_zero, upd_self]
  | succ i ih =>
    show upd (s_cb (crS S w f t i)) w (s_cb (crS S w f t i) w + 1) = upd (s_cb S) w (s_cb S w + nI (i + 1))
    rw [ih, upd_upd, upd_at, Int32.add_assoc, ← nI_succ]
theorem SS_eta (S : SS) : S = (s_se S, s_br S, s_wa S, s_cr S, s_sh S, s_ow S, s_pa S, s_cb S, s_pd S, s_fz S, s_dk S, s_dy S, s_fe S, s_dr S, s_dn S) := rfl
theorem crS_eq (S : SS) (w f t i : Nat) : crS S w f t i = (s_se S, s_br S, s_wa S, s_cr (crS S w f t i), s_sh S, upd (s_ow S) w (s_ow S w + smD (fun k => dutyA S (plc k f t)) i), s_pa S, upd (s_cb S) w (s_cb S w + nI i), s_pd S, s_fz S, s_dk S, s_dy S, s_fe S, s_dr S, s_dn S) := by
  obtain ⟨e1, e2, e3, e4, e5, e6, e7, e8, e9, e10, e11, e12⟩ := crS_frm S w f t i
  have e : crS S w f t i = (s_se (crS S w f t i), s_br (crS S w f t i), s_wa (crS S w f t i), s_cr (crS S w f t i), s_sh (crS S w f t i), s_ow (crS S w f t i), s_pa (crS S w f t i), s_cb (crS S w f t i), s_pd (crS S w f t i), s_fz (crS S w f t i), s_dk (crS S w f t i), s_dy (crS S w f t i), s_fe (crS S w f t i), s_dr (crS S w f t i), s_dn (crS S w f t i)) := SS_eta _
  rw [e1, e2, e3, e4, e5, e6, e7, e8, e9, e10, e11, e12, crS_ow S w f t i, crS_cb S w f t i] at e
  exact e
theorem RSa.walk (h : RSa m d D S z) (hm : m < 4096) (hd : d < 4096) {w f t : Nat} (hw : w < 6) (hf : f < 12) (ht : t < 12) : RSa m d D (crS S w f t (stU S w f t)) (zWk z w f t (zAl z w f t)) := by
  have hn : stU S w f t ≤ t - f + (f - t) + 1 := by
    have := stp_le1 (fun k => mayC S w (plc k f t)) (t - f + (f - t) + 1) 0
    unfold stU; omega
  have hst := h.stq hm hd hw hf ht
  have hz2 : RSa m d D (s_se S, s_br S, s_wa S, s_cr S, s_sh S, upd (s_ow S) w (s_ow S w + smD (fun k => dutyA S (plc k f t)) (stU S w f t)), s_pa S, upd (s_cb S) w (s_cb S w + nI (stU S w f t)), s_pd S, s_fz S, s_dk S, s_dy S, s_fe S, s_dr S, s_dn S) (zW2 z w f t) := by
    rw [h.cost hm hd hw hf ht, hst, h.ow w hw, h.cb w hw]
    have g1 := h.u_ow (w := w) (x := z (68 + 4 * w + 1) + smD (fun k => zDu z (plc k f t)) (zAl z w f t)) hw
    have g2 := g1.u_cb (w := w) (x := zW1 z w f t (68 + 4 * w + 3) + nI (zAl z w f t)) hw
    rw [show z (68 + 4 * w + 3) = zW1 z w f t (68 + 4 * w + 3) by unfold zW1; rw [upd_ne (by omega)]]
    exact g2
  have key : ∀ i, i ≤ stU S w f t → RSa m d D (s_se S, s_br S, s_wa S, s_cr (crS S w f t i), s_sh S, upd (s_ow S) w (s_ow S w + smD (fun k => dutyA S (plc k f t)) (stU S w f t)), s_pa S, upd (s_cb S) w (s_cb S w + nI (stU S w f t)), s_pd S, s_fz S, s_dk S, s_dy S, s_fe S, s_dr S, s_dn S) (zWk z w f t i) := by
    intro i
    induction i with
    | zero => intro _; exact hz2
    | succ i ih =>
      intro hi
      have g := ih (by omega)
      have hp := plc_lt1 hf ht (k := i) (by omega)
      have g1 := g.u_cr (x := zWk z w f t i (8 + 5 * plc i f t + 4) + 1) hp
      have e : s_cr (crS S w f t i) (plc i f t) = zWk z w f t i (8 + 5 * plc i f t + 4) := g.cr _ hp
      have e2 : s_cr (crS S w f t (i + 1)) = upd (s_cr (crS S w f t i)) (plc i f t) (zWk z w f t i (8 + 5 * plc i f t + 4) + 1) := by
        show upd (s_cr (crS S w f t i)) (plc i f t) (s_cr (crS S w f t i) (plc i f t) + 1) = _
        rw [e]
      rw [e2]
      exact g1
  have g := key _ (Nat.le_refl _)
  rw [crS_eq, ← hst]
  exact g
theorem RSa.pass (h : RSa m d D S z) (hm : m < 4096) (hd : d < 4096) {x : Int32} (hx1 : ¬ x < 0) (hx2 : x ≤ 11) {n6 : Nat} (h6 : n6 = 6) : ∃ m1 d1, m1 < 4096 ∧ d1 < 4096 ∧ RSa m1 d1 (if x = 11 then D + 1 else D) (lpS x S n6 12) (zLp x z 12 72) := by
  unfold lpS zLp
  by_cases c0 : x = 0
  · rw [if_pos c0, if_pos c0, if_neg (by rw [c0]; decide)]
    exact ⟨0, d, by decide, hd, h.sun hm⟩
  rw [if_neg c0, if_neg c0]
  by_cases c10 : x = 10
  · subst c10
    rw [if_pos (show (10 : Int32) = 10 from rfl), if_pos (show (10 : Int32) ≤ 10 by decide), if_pos (show (10 : Int32) = 10 from rfl), if_neg (show ¬ (10 : Int32) = 11 by decide)]
    obtain ⟨M, h1, h2⟩ := h.frost hm
    exact ⟨M, d, h1, hd, h2⟩
  by_cases c11 : x = 11
  · subst c11
    rw [if_neg (show ¬ (11 : Int32) = 10 by decide), if_pos (show (11 : Int32) = 11 from rfl), if_pos (show (10 : Int32) ≤ 11 by decide), if_neg (show ¬ (11 : Int32) = 10 by decide), if_pos (show (11 : Int32) = 11 from rfl)]
    obtain ⟨a, h1, h2⟩ := h.day hm hd h6
    exact ⟨m, a, hm, h1, h2⟩
  have i0 : x.toInt ≠ 0 := fun q => c0 (Int32.toInt_inj.mp q)
  have i10 : x.toInt ≠ 10 := fun q => c10 (Int32.toInt_inj.mp q)
  have i11 : x.toInt ≠ 11 := fun q => c11 (Int32.toInt_inj.mp q)
  have a1 : ¬ x.toInt < 0 := fun q => hx1 (Int32.lt_iff_toInt_lt.mpr q)
  have a2 : x.toInt ≤ 11 := Int32.le_iff_toInt_le.mp hx2
  have b1 : ¬ x ≤ 0 := fun q => by
    have : x.toInt ≤ 0 := Int32.le_iff_toInt_le.mp q
    omega
  have b2 : ¬ 9 < x := fun q => by
    have : 9 < x.toInt := Int32.lt_iff_toInt_lt.mp q
    omega
  have b3 : ¬ 10 ≤ x := fun q => by
    have : 10 ≤ x.toInt := Int32.le_iff_toInt_le.mp q
    omega
  rw [if_neg c10, if_neg c11, if_neg b1, if_neg b2, if_neg b3, if_neg c11]
  exact ⟨m, d, hm, hd, h.rain hm x⟩
end DAY
