/-! what changes: drain, sun, rain, frost: alike -/
section CHG
variable {m d D : Nat} {S : SS} {z : Nat → Int32}
theorem RSa.z_eq {z1 : Nat → Int32} (h : RSa m d D S z) (e : z1 = z) : RSa m d D S z1 := e ▸ h
theorem pos_nle (x : Int32) : 0 < x ↔ ¬ x ≤ 0 := Int32.not_le.symm
theorem RSa.dn' (h : RSa m d D S z) {p : Nat} (hp : p < 12) (x : Int32) : RSa m d D (s_se S, s_br S, dnWa (s_wa S) p x, s_cr S, s_sh S, s_ow S, s_pa S, s_cb S, s_pd S, s_fz S, s_dk S, s_dy S, s_fe S, s_dr S, dnDn (s_wa S) (s_dn S) p x) (zDn z p x) := by
  unfold dnWa dnDn zDn
  rw [h.wa p hp]
  by_cases e : z (8 + 5 * p + 1) - x ≤ 0
  · rw [if_pos e, if_neg (fun q => (pos_nle _).mp q e), if_neg (fun q => (pos_nle _).mp q e)]
    exact h
  · rw [if_neg e, if_pos ((pos_nle _).mpr e), if_pos ((pos_nle _).mpr e)]
    have h1 := (h.u_wa hp (x := x))
    have h2 := h1.u_dn (x := upd z (8 + 5 * p + 1) x 7 + (z (8 + 5 * p + 1) - x))
    rw [show s_dn S + (z (8 + 5 * p + 1) - x) = upd z (8 + 5 * p + 1) x 7 + (z (8 + 5 * p + 1) - x) by rw [upd_ne (by omega), h.dn]]
    exact h2
theorem RSa.sun' (h : RSa m d D S z) (hm : m < 4096) : ∀ i, i ≤ 12 → ∃ M, M < 4096 ∧ RSa M d D (s_se S, s_br S, (shL S i).1, s_cr S, s_sh S, s_ow S, s_pa S, s_cb S, s_pd S, nI M, s_dk S, s_dy S, s_fe S, (shL S i).2, s_dn S) (zSu z i) ∧ ∀ q, q < 12 → bitz M q = if q < i then 0 else bitz m q := by
  intro i
  induction i with
  | zero => intro _; exact ⟨m, hm, by rw [← h.fz]; exact h, fun q hq => by rw [if_neg (by omega)]⟩
  | succ i ih =>
    intro hi
    obtain ⟨M, h1, h2, h3⟩ := ih (by omega)
    have hb : bitz M i = bitz m i := by rw [h3 i (by omega), if_neg (by omega)]
    have ez : zSu z (i + 1) = if zFz (zSu z i) i = 0 then (if zSu z i 1 ≤ zSu z i (8 + 5 * i + 1)
      then upd (upd (zSu z i) (8 + 5 * i + 1) (zSu z i (8 + 5 * i + 1) - zSu z i 1)) 6 (upd (zSu z i) (8 + 5 * i + 1) (zSu z i (8 + 5 * i + 1) - zSu z i 1) 6 + zSu z i 1)
      else upd (upd (zSu z i) (8 + 5 * i + 1) (zSu z i (8 + 5 * i + 1) - zSu z i (8 + 5 * i + 1))) 6 (upd (zSu z i) (8 + 5 * i + 1) (zSu z i (8 + 5 * i + 1) - zSu z i (8 + 5 * i + 1)) 6 + zSu z i (8 + 5 * i + 1)))
      else upd (zSu z i) (8 + 5 * i + 2) 0 := rfl
    have eS : shL S (i + 1) = if bt1 (s_fz S) i = 0 then
      (upd (shL S i).1 i ((shL S i).1 i - (if s_se S 1 < (shL S i).1 i then s_se S 1 else (shL S i).1 i)), (shL S i).2 + (if s_se S 1 < (shL S i).1 i then s_se S 1 else (shL S i).1 i)) else shL S i := rfl
    rw [ez, eS, h2.zF (p := i) (by omega), h.bF hm (p := i) (by omega), hb]
    have wi : (shL S i).1 i = zSu z i (8 + 5 * i + 1) := h2.wa i (by omega)
    have s1 : s_se S 1 = zSu z i 1 := h2.se 1 (by omega)
    have dr1 : (shL S i).2 = zSu z i 6 := h2.dr
    by_cases e : bitz m i = 0
    · rw [if_pos e, if_pos e]
      refine ⟨M, h1, ?_, fun q hq => ?_⟩
      · have key : ∀ r : Int32, RSa M d D (s_se S, s_br S, upd (shL S i).1 i ((shL S i).1 i - r), s_cr S, s_sh S, s_ow S, s_pa S, s_cb S, s_pd S, nI M, s_dk S, s_dy S, s_fe S, (shL S i).2 + r, s_dn S) (upd (upd (zSu z i) (8 + 5 * i + 1) (zSu z i (8 + 5 * i + 1) - r)) 6 (upd (zSu z i) (8 + 5 * i + 1) (zSu z i (8 + 5 * i + 1) - r) 6 + r)) := by
          intro r
          have g1 := h2.u_wa (p := i) (x := zSu z i (8 + 5 * i + 1) - r) (by omega)
          have g2 := g1.u_dr (x := upd (zSu z i) (8 + 5 * i + 1) (zSu z i (8 + 5 * i + 1) - r) 6 + r)
          rw [wi, show (shL S i).2 + r = upd (zSu z i) (8 + 5 * i + 1) (zSu z i (8 + 5 * i + 1) - r) 6 + r by rw [upd_ne (by omega), dr1]]
          exact g2
        have er : (if s_se S 1 < (shL S i).1 i then s_se S 1 else (shL S i).1 i) = if zSu z i 1 ≤ zSu z i (8 + 5 * i + 1) then zSu z i 1 else zSu z i (8 + 5 * i + 1) := by
          rw [s1, wi]
          by_cases c : zSu z i 1 < zSu z i (8 + 5 * i + 1)
          · rw [if_pos c, if_pos (Int32.le_of_lt c)]
          · rw [if_neg c]
            by_cases c2 : zSu z i 1 ≤ zSu z i (8 + 5 * i + 1)
            · rw [if_pos c2]; exact Int32.le_antisymm (Int32.not_lt.mp c) c2
            · rw [if_neg c2]
        rw [er]
        by_cases c2 : zSu z i 1 ≤ zSu z i (8 + 5 * i + 1)
        · rw [if_pos c2, if_pos c2]; exact key _
        · rw [if_neg c2, if_neg c2]; exact key _
      · rw [h3 q hq]
        by_cases c : q < i
        · rw [if_pos c, if_pos (by omega)]
        · rw [if_neg c]
          by_cases c2 : q < i + 1
          · rw [if_pos c2, show q = i by omega]; exact e
          · rw [if_neg c2]
    · rw [if_neg e, if_neg e]
      refine ⟨clrB M i, clrB_lt h1, h2.u_fz (by omega) (fun q hq => bitz_clr hq), fun q hq => ?_⟩
      rw [bitz_clr hq, h3 q hq]
      by_cases c : q = i
      · rw [if_pos c, if_pos (by omega)]
      · rw [if_neg c]
        by_cases c2 : q < i
        · rw [if_pos c2, if_pos (by omega)]
        · rw [if_neg c2, if_neg (by omega)]
theorem RSa.sun (h : RSa m d D S z) (hm : m < 4096) : RSa 0 d D (s_se S, s_br S, (shL S 12).1, s_cr S, s_sh S, s_ow S, s_pa S, s_cb S, s_pd S, 0, s_dk S, s_dy S, s_fe S, (shL S 12).2, s_dn S) (zSu z 12) := by
  obtain ⟨M, h1, h2, h3⟩ := h.sun' hm 12 (Nat.le_refl _)
  have : M = 0 := bitz_ext h1 (by decide) (fun q hq => by rw [h3 q hq, if_pos hq]; unfold bitz; rw [Nat.zero_testBit]; rfl)
  subst this
  exact h2
theorem RSa.rain' (h : RSa m d D S z) (hm : m < 4096) (am : Int32) : ∀ i, i ≤ 12 → RSa m d D (s_se S, s_br S, (rnL S am i).1, s_cr S, s_sh S, s_ow S, s_pa S, s_cb S, s_pd S, s_fz S, s_dk S, s_dy S, (rnL S am i).2.1, s_dr S, (rnL S am i).2.2.1) (zRa z am i).1 ∧ (rnL S am i).2.2.2 = (zRa z am i).2 := by
  intro i
  induction i with
  | zero => intro _; exact ⟨h, rfl⟩
  | succ i ih =>
    intro hi
    obtain ⟨h2, hc⟩ := ih (by omega)
    have eS : rnL S am (i + 1) = if bt1 (s_fz S) i = 0 then
      (upd (rnL S am i).1 i (if s_br S i < (rnL S am i).1 i + am + (rnL S am i).2.2.2 then s_br S i else (rnL S am i).1 i + am + (rnL S am i).2.2.2), (rnL S am i).2.1 + am, (rnL S am i).2.2.1, (rnL S am i).1 i + am + (rnL S am i).2.2.2 - (if s_br S i < (rnL S am i).1 i + am + (rnL S am i).2.2.2 then s_br S i else (rnL S am i).1 i + am + (rnL S am i).2.2.2))
      else ((rnL S am i).1, (rnL S am i).2.1, (rnL S am i).2.2.1 + (rnL S am i).2.2.2, 0) := rfl
    have ez : zRa z am (i + 1) = if zFz (zRa z am i).1 i = 0 then (if (zRa z am i).1 (8 + 5 * i + 1) + am + (zRa z am i).2 ≤ (zRa z am i).1 (8 + 5 * i + 0)
      then (upd (upd (zRa z am i).1 5 ((zRa z am i).1 5 + am)) (8 + 5 * i + 1) ((zRa z am i).1 (8 + 5 * i + 1) + am + (zRa z am i).2 - 0), 0)
      else (upd (upd (zRa z am i).1 5 ((zRa z am i).1 5 + am)) (8 + 5 * i + 1) ((zRa z am i).1 (8 + 5 * i + 1) + am + (zRa z am i).2 - ((zRa z am i).1 (8 + 5 * i + 1) + am + (zRa z am i).2 - (zRa z am i).1 (8 + 5 * i + 0))), (zRa z am i).1 (8 + 5 * i + 1) + am + (zRa z am i).2 - (zRa z am i).1 (8 + 5 * i + 0)))
      else (upd (zRa z am i).1 7 ((zRa z am i).1 7 + (zRa z am i).2), 0) := rfl
    rw [eS, ez, h2.zF (p := i) (by omega), h.bF hm (p := i) (by omega), hc]
    have wi : (rnL S am i).1 i = (zRa z am i).1 (8 + 5 * i + 1) := h2.wa i (by omega)
    have bi : s_br S i = (zRa z am i).1 (8 + 5 * i + 0) := h2.br i (by omega)
    have fe1 : (rnL S am i).2.1 = (zRa z am i).1 5 := h2.fe
    have dn1 : (rnL S am i).2.2.1 = (zRa z am i).1 7 := h2.dn
    by_cases e : bitz m i = 0
    · rw [if_pos e, if_pos e]
      have key : ∀ x : Int32, RSa m d D (s_se S, s_br S, upd (rnL S am i).1 i x, s_cr S, s_sh S, s_ow S, s_pa S, s_cb S, s_pd S, s_fz S, s_dk S, s_dy S, (rnL S am i).2.1 + am, s_dr S, (rnL S am i).2.2.1) (upd (upd (zRa z am i).1 5 ((zRa z am i).1 5 + am)) (8 + 5 * i + 1) x) := by
        intro x
        have g1 := h2.u_fe (x := (zRa z am i).1 5 + am)
        have g2 := g1.u_wa (p := i) (x := x) (by omega)
        rw [fe1]
        exact g2
      rw [wi, bi]
      generalize ht : (zRa z am i).1 (8 + 5 * i + 1) + am + (zRa z am i).2 = t at *
      by_cases c : t ≤ (zRa z am i).1 (8 + 5 * i + 0)
      · rw [if_pos c, if_neg (Int32.not_lt.mpr c), Int32.sub_self, Int32.sub_zero]
        exact ⟨key _, rfl⟩
      · rw [if_neg c, if_pos (Int32.not_le.mp c), show t - (t - (zRa z am i).1 (8 + 5 * i + 0)) = (zRa z am i).1 (8 + 5 * i + 0) by rw [Int32.sub_eq_add_neg t (t - _), Int32.neg_sub, Int32.add_comm, Int32.sub_add_cancel]]
        exact ⟨key _, rfl⟩
    · rw [if_neg e, if_neg e]
      refine ⟨?_, rfl⟩
      have g1 := h2.u_dn (x := (zRa z am i).1 7 + (zRa z am i).2)
      show RSa m d D (s_se S, s_br S, (rnL S am i).1, s_cr S, s_sh S, s_ow S, s_pa S, s_cb S, s_pd S, s_fz S, s_dk S, s_dy S, (rnL S am i).2.1, s_dr S, (rnL S am i).2.2.1 + (zRa z am i).2) (upd (zRa z am i).1 7 ((zRa z am i).1 7 + (zRa z am i).2))
      rw [dn1]
      exact g1
theorem RSa.rain (h : RSa m d D S z) (hm : m < 4096) (am : Int32) : RSa m d D (s_se S, s_br S, (rnL S am 12).1, s_cr S, s_sh S, s_ow S, s_pa S, s_cb S, s_pd S, s_fz S, s_dk S, s_dy S, (rnL S am 12).2.1, s_dr S, (rnL S am 12).2.2.1 + (rnL S am 12).2.2.2) (upd (zRa z am 12).1 7 ((zRa z am 12).1 7 + (zRa z am 12).2)) := by
  obtain ⟨h2, hc⟩ := h.rain' hm am 12 (Nat.le_refl _)
  have dn1 : (rnL S am 12).2.2.1 = (zRa z am 12).1 7 := h2.dn
  have g1 := h2.u_dn (x := (zRa z am 12).1 7 + (zRa z am 12).2)
  rw [hc, dn1]
  exact g1
theorem RSa.frost' (h : RSa m d D S z) (hm : m < 4096) : ∀ i, i ≤ 12 → ∃ M, M < 4096 ∧ frL S i = nI M ∧ RSa M d D (s_se S, s_br S, s_wa S, s_cr S, s_sh S, s_ow S, s_pa S, s_cb S, s_pd S, nI M, s_dk S, s_dy S, s_fe S, s_dr S, s_dn S) (zFr z i) := by
  intro i
  induction i with
  | zero => intro _; exact ⟨m, hm, h.fz, by rw [← h.fz]; exact h⟩
  | succ i ih =>
    intro hi
    obtain ⟨M, h1, h2, h3⟩ := ih (by omega)
    have eS : frL S (i + 1) = if 4 ≤ s_wa S i / 5 then frL S i else frL S i ||| ((1 : Int32) <<< (nI i &&& 31)) := rfl
    have ez : zFr z (i + 1) = if 4 ≤ zFr z i (8 + 5 * i + 1) / 5 then upd (zFr z i) (8 + 5 * i + 2) (zFr z i (8 + 5 * i + 2)) else upd (zFr z i) (8 + 5 * i + 2) 1 := rfl
    have wi : s_wa S i = zFr z i (8 + 5 * i + 1) := h3.wa i (by omega)
    rw [eS, ez, wi]
    by_cases e : 4 ≤ zFr z i (8 + 5 * i + 1) / 5
    · rw [if_pos e, if_pos e, upd_self]; exact ⟨M, h1, h2, h3⟩
    · rw [if_neg e, if_neg e, h2, or1_nI M h1 i (by omega)]
      exact ⟨setB M i, setB_lt h1 (by omega), rfl, h3.u_fz (by omega) (fun q hq => bitz_set)⟩
theorem RSa.frost (h : RSa m d D S z) (hm : m < 4096) : ∃ M, M < 4096 ∧ RSa M d D (s_se S, s_br S, s_wa S, s_cr S, s_sh S, s_ow S, s_pa S, s_cb S, s_pd S, frL S 12, s_dk S, s_dy S, s_fe S, s_dr S, s_dn S) (zFr z 12) := by
  obtain ⟨M, h1, h2, h3⟩ := h.frost' hm 12 (Nat.le_refl _)
  rw [h2]
  exact ⟨M, h1, h3⟩
end CHG
