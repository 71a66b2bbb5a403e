/-! the operations, one by one: alike -/
section OPS
variable {l : Launch} {G : va_G} {ca : Nat → ClassId} {tL tM : Nat} {A : AD} {h5 : Nat} {a5 : Nat → Nat} {v : VV} {M : MM}
theorem st_shoes (hR : Rel A v M) (x y : Int32) : StepAt l G ca tL tM A h5 a5 v M yX4_shoes wsX4_shoes [.int x, .int y] yX5_shoes wsX5_shoes [.int x, .int y] := by
  obtain ⟨m, d, D, hm, hd, hD, h⟩ := hR.1
  rcases in6 x 6 (by decide) with hx | ⟨w, hw, rfl⟩
  · refine op_ask hR ?_ (fun kj bj Tj O => c_X4_shoes_out l G ca _ _ _ _ _ _ _ _ _ _ _ _ _ _ _ _ O _ x y hx) (c_X5_shoes_out l G ca h5 a5 M x y hx) (by decide); rfl
  · by_cases c : y < 0 ∨ ¬ y ≤ 3
    · refine op_ask hR ?_ (fun kj bj Tj O => c_X4_shoes_bad l G ca _ _ _ _ _ _ _ _ _ _ _ _ _ _ _ _ O _ w y hw c) (c_X5_shoes_bad l G ca h5 a5 M w y hw c) (by decide); rfl
    · have c1 : ¬ y < 0 := fun q => c (Or.inl q)
      have c2 : y ≤ 3 := Classical.not_not.mp (fun q => c (Or.inr q))
      refine op_rec (n820 := 820) rfl hR ?_ ?_ (fun kj bj Tj O e1 e2 => (c_X4_shoes_ok l G ca _ _ _ _ _ _ _ _ _ _ _ _ _ _ _ _ O _ w y hR.n6 e1 e2 hw c1 c2).toS tL tM) (c_X5_shoes_ok l G ca h5 a5 M w y _ 820 hR.st hR.n6 rfl hw c1 c2) (by decide)
      · exact h.sh w hw
      · exact ⟨m, d, D, hm, hd, hD, h.u_sh hw⟩
theorem st_brim (hR : Rel A v M) (x y : Int32) : StepAt l G ca tL tM A h5 a5 v M yX4_brim wsX4_brim [.int x, .int y] yX5_brim wsX5_brim [.int x, .int y] := by
  obtain ⟨m, d, D, hm, hd, hD, h⟩ := hR.1
  rcases in6 x 12 (by decide) with hx | ⟨p, hp, rfl⟩
  · refine op_ask hR ?_ (fun kj bj Tj O => c_X4_brim_out l G ca _ _ _ _ _ _ _ _ _ _ _ _ _ _ _ _ O _ x y hx) (c_X5_brim_out l G ca h5 a5 M x y hx) (by decide); rfl
  · by_cases c : y < 1 ∨ ¬ y ≤ 60
    · refine op_ask hR ?_ (fun kj bj Tj O => c_X4_brim_bad l G ca _ _ _ _ _ _ _ _ _ _ _ _ _ _ _ _ O _ p y hp c) (c_X5_brim_bad l G ca h5 a5 M p y hp c) (by decide); rfl
    · have c1 : ¬ y < 1 := fun q => c (Or.inl q)
      have c2 : y ≤ 60 := Classical.not_not.mp (fun q => c (Or.inr q))
      refine op_rec (n820 := 820) rfl hR ?_ ?_ (fun kj bj Tj O e1 e2 => (c_X4_brim_ok l G ca _ _ _ _ _ _ _ _ _ _ _ _ _ _ _ _ O _ p y hR.n6 e1 e2 hp c1 c2).toS tL tM) (c_X5_brim_ok l G ca h5 a5 M p y _ 820 hR.st hR.n6 rfl hp c1 c2) (by decide)
      · exact h.br p hp
      · exact ⟨m, d, D, hm, hd, hD, (h.u_br hp).dn' hp y⟩
theorem st_drain (hR : Rel A v M) (x : Int32) : StepAt l G ca tL tM A h5 a5 v M yX4_drain wsX4_drain [.int x] yX5_drain wsX5_drain [.int x] := by
  obtain ⟨m, d, D, hm, hd, hD, h⟩ := hR.1
  rcases in6 x 12 (by decide) with hx | ⟨p, hp, rfl⟩
  · refine op_ask hR ?_ (fun kj bj Tj O => c_X4_drain_out l G ca _ _ _ _ _ _ _ _ _ _ _ _ _ _ _ _ O _ x hx) (c_X5_drain_out l G ca h5 a5 M x hx) (by decide); rfl
  · have e : bt1 (s_dk v.1) p = zDk (m_z M) p := (h.bD hd hp).trans (h.zD hp).symm
    by_cases c : bt1 (s_dk v.1) p = 0
    · refine op_rec (n820 := 820) rfl hR ?_ ?_ (fun kj bj Tj O e1 e2 => (c_X4_drain_ok l G ca _ _ _ _ _ _ _ _ _ _ _ _ _ _ _ _ O _ p hR.n6 e1 e2 hp c).toS tL tM) (c_X5_drain_ok l G ca h5 a5 M p _ 820 hR.st hR.n6 rfl hp (e ▸ c)) (by decide)
      · exact h.wa p hp
      · refine ⟨clrB m p, d, D, clrB_lt hm, hd, hD, ?_⟩
        rw [show thaw1 (s_fz v.1) p = nI (clrB m p) by rw [h.fz]; exact thaw1_nI m hm p hp]
        exact (h.dn' hp 0).u_fz hp (fun q hq => bitz_clr hq)
    · refine op_ask hR ?_ (fun kj bj Tj O => c_X4_drain_ducks l G ca _ _ _ _ _ _ _ _ _ _ _ _ _ _ _ _ O _ p hp c) (c_X5_drain_ducks l G ca h5 a5 M p hp (e ▸ c)) (by decide); rfl
theorem st_permit (hR : Rel A v M) (x y : Int32) : StepAt l G ca tL tM A h5 a5 v M yX4_permit wsX4_permit [.int x, .int y] yX5_permit wsX5_permit [.int x, .int y] := by
  obtain ⟨m, d, D, hm, hd, hD, h⟩ := hR.1
  rcases in6 x 6 (by decide) with hx | ⟨w, hw, rfl⟩
  · refine op_ask hR ?_ (fun kj bj Tj O => c_X4_permit_outw l G ca _ _ _ _ _ _ _ _ _ _ _ _ _ _ _ _ O _ x y hx) (c_X5_permit_outw l G ca h5 a5 M x y hx) (by decide); rfl
  rcases in6 y 12 (by decide) with hx | ⟨p, hp, rfl⟩
  · refine op_ask hR ?_ (fun kj bj Tj O => c_X4_permit_outp l G ca _ _ _ _ _ _ _ _ _ _ _ _ _ _ _ _ O _ w y hw hx) (c_X5_permit_outp l G ca h5 a5 M w y hw hx) (by decide); rfl
  · have e : bt1 (s_dk v.1) p = zDk (m_z M) p := (h.bD hd hp).trans (h.zD hp).symm
    by_cases c : bt1 (s_dk v.1) p = 0
    · have g := h.u_pd (x := m_z M 3) hw hp
      refine op_rec (n820 := 820) rfl hR ?_ ?_ (fun kj bj Tj O e1 e2 => (c_X4_permit_ok l G ca _ _ _ _ _ _ _ _ _ _ _ _ _ _ _ _ O _ w p hR.n6 e1 e2 hw hp c).toS tL tM) (c_X5_permit_ok l G ca h5 a5 M w p _ 820 hR.st hR.n6 rfl hw hp (e ▸ c)) (by decide)
      · rw [bc_mk, h.se 3 (by omega)]; exact congrArg szN (g.pg hw)
      · refine ⟨m, d, D, hm, hd, hD, ?_⟩
        rw [h.se 3 (by omega)]; exact g
    · refine op_ask hR ?_ (fun kj bj Tj O => c_X4_permit_ducks l G ca _ _ _ _ _ _ _ _ _ _ _ _ _ _ _ _ O _ w p hw hp c) (c_X5_permit_ducks l G ca h5 a5 M w p hw hp (e ▸ c)) (by decide); rfl
theorem st_walk (hR : Rel A v M) (x y y2 : Int32) : StepAt l G ca tL tM A h5 a5 v M yX4_walk wsX4_walk [.int x, .int y, .int y2] yX5_walk wsX5_walk [.int x, .int y, .int y2] := by
  obtain ⟨m, d, D, hm, hd, hD, h⟩ := hR.1
  rcases in6 x 6 (by decide) with hx | ⟨w, hw, rfl⟩
  · refine op_ask hR ?_ (fun kj bj Tj O => c_X4_walk_outw l G ca _ _ _ _ _ _ _ _ _ _ _ _ _ _ _ _ O _ x y y2 hx) (c_X5_walk_outw l G ca h5 a5 M x y y2 hx) (by decide); rfl
  rcases in6 y 12 (by decide) with hx | ⟨f, hf, rfl⟩
  · refine op_ask hR ?_ (fun kj bj Tj O => c_X4_walk_outf l G ca _ _ _ _ _ _ _ _ _ _ _ _ _ _ _ _ O _ w y y2 hw hx) (c_X5_walk_outf l G ca h5 a5 M w y y2 hw hx) (by decide); rfl
  rcases in6 y2 12 (by decide) with hx | ⟨t, ht, rfl⟩
  · refine op_ask hR ?_ (fun kj bj Tj O => c_X4_walk_outt l G ca _ _ _ _ _ _ _ _ _ _ _ _ _ _ _ _ O _ w f y2 hw hf hx) (c_X5_walk_outt l G ca h5 a5 M w f y2 hw hf hx) (by decide); rfl
  · refine op_rec (n820 := 820) rfl hR ?_ ?_ (fun kj bj Tj O e1 e2 => (c_X4_walk_ok l G ca _ _ _ _ _ _ _ _ _ _ _ _ _ _ _ _ O _ w f t hR.n6 e1 e2 hw hf ht).toS tL tM) (c_X5_walk_ok l G ca h5 a5 M w f t _ 820 hR.st hR.n6 rfl hw hf ht) (by decide)
    · exact congrArg nI (h.stq hm hd hw hf ht)
    · exact ⟨m, d, D, hm, hd, hD, h.walk hm hd hw hf ht⟩
theorem st_cost (hR : Rel A v M) (x y y2 u : Int32) : StepAt l G ca tL tM A h5 a5 v M yX4_cost wsX4_cost [.int x, .int y, .int y2, .int u] yX5_cost wsX5_cost [.int x, .int y, .int y2, .int u] := by
  obtain ⟨m, d, D, hm, hd, hD, h⟩ := hR.1
  rcases in6 x 6 (by decide) with hx | ⟨w, hw, rfl⟩
  · refine op_ask hR ?_ (fun kj bj Tj O => c_X4_cost_outw l G ca _ _ _ _ _ _ _ _ _ _ _ _ _ _ _ _ O _ x y y2 u hx) (c_X5_cost_outw l G ca h5 a5 M x y y2 u hx) (by decide); rfl
  rcases in6 y 12 (by decide) with hx | ⟨f, hf, rfl⟩
  · refine op_ask hR ?_ (fun kj bj Tj O => c_X4_cost_outf l G ca _ _ _ _ _ _ _ _ _ _ _ _ _ _ _ _ O _ w y y2 u hw hx) (c_X5_cost_outf l G ca h5 a5 M w y y2 u hw hx) (by decide); rfl
  rcases in6 y2 12 (by decide) with hx | ⟨t, ht, rfl⟩
  · refine op_ask hR ?_ (fun kj bj Tj O => c_X4_cost_outt l G ca _ _ _ _ _ _ _ _ _ _ _ _ _ _ _ _ O _ w f y2 u hw hf hx) (c_X5_cost_outt l G ca h5 a5 M w f y2 u hw hf hx) (by decide); rfl
  by_cases c0 : u = 0
  · subst c0; refine op_ask hR ?_ (fun kj bj Tj O => c_X4_cost_0 l G ca _ _ _ _ _ _ _ _ _ _ _ _ _ _ _ _ O _ w f t hw hf ht) (c_X5_cost_0 l G ca h5 a5 M w f t hw hf ht) (by decide); exact h.cost hm hd hw hf ht
  by_cases c1 : u = 1
  · subst c1; refine op_ask hR ?_ (fun kj bj Tj O => c_X4_cost_1 l G ca _ _ _ _ _ _ _ _ _ _ _ _ _ _ _ _ O _ w f t hw hf ht) (c_X5_cost_1 l G ca h5 a5 M w f t hw hf ht) (by decide); exact h.cost hm hd hw hf ht
  · refine op_ask hR ?_ (fun kj bj Tj O => c_X4_cost_bad l G ca _ _ _ _ _ _ _ _ _ _ _ _ _ _ _ _ O _ w f t u hw hf ht c0 c1) (c_X5_cost_bad l G ca h5 a5 M w f t u hw hf ht c0 c1) (by decide); rfl
theorem st_why (hR : Rel A v M) (x y : Int32) : StepAt l G ca tL tM A h5 a5 v M yX4_why wsX4_why [.int x, .int y] yX5_why wsX5_why [.int x, .int y] := by
  obtain ⟨m, d, D, hm, hd, hD, h⟩ := hR.1
  rcases in6 x 6 (by decide) with hx | ⟨w, hw, rfl⟩
  · refine op_ask hR ?_ (fun kj bj Tj O => c_X4_why_outw l G ca _ _ _ _ _ _ _ _ _ _ _ _ _ _ _ _ O _ x y hx) (c_X5_why_outw l G ca h5 a5 M x y hx) (by decide); rfl
  rcases in6 y 12 (by decide) with hx | ⟨p, hp, rfl⟩
  · refine op_ask hR ?_ (fun kj bj Tj O => c_X4_why_outp l G ca _ _ _ _ _ _ _ _ _ _ _ _ _ _ _ _ O _ w y hw hx) (c_X5_why_outp l G ca h5 a5 M w y hw hx) (by decide); rfl
  · refine op_ask hR ?_ (fun kj bj Tj O => c_X4_why_ok l G ca _ _ _ _ _ _ _ _ _ _ _ _ _ _ _ _ O _ w p hw hp) (c_X5_why_ok l G ca h5 a5 M w p hw hp) (by decide)
    rw [h.rsn hm hd hw hp, h.sh w hw]; rfl
theorem st_holds (hR : Rel A v M) (x y : Int32) : StepAt l G ca tL tM A h5 a5 v M yX4_holds wsX4_holds [.int x, .int y] yX5_holds wsX5_holds [.int x, .int y] := by
  obtain ⟨m, d, D, hm, hd, hD, h⟩ := hR.1
  rcases in6 x 6 (by decide) with hx | ⟨w, hw, rfl⟩
  · refine op_ask hR ?_ (fun kj bj Tj O => c_X4_holds_outw l G ca _ _ _ _ _ _ _ _ _ _ _ _ _ _ _ _ O _ x y hx) (c_X5_holds_outw l G ca h5 a5 M x y hx) (by decide); rfl
  rcases in6 y 12 (by decide) with hx | ⟨p, hp, rfl⟩
  · refine op_ask hR ?_ (fun kj bj Tj O => c_X4_holds_outp l G ca _ _ _ _ _ _ _ _ _ _ _ _ _ _ _ _ O _ w y hw hx) (c_X5_holds_outp l G ca h5 a5 M w y hw hx) (by decide); rfl
  · refine op_ask hR ?_ (fun kj bj Tj O => c_X4_holds_ok l G ca _ _ _ _ _ _ _ _ _ _ _ _ _ _ _ _ O _ w p hw hp) (c_X5_holds_ok l G ca h5 a5 M w p hw hp) (by decide)
    rw [h.pd w hw p hp]
theorem st_untilDry (hR : Rel A v M) (x : Int32) : StepAt l G ca tL tM A h5 a5 v M yX4_untilDry wsX4_untilDry [.int x] yX5_untilDry wsX5_untilDry [.int x] := by
  obtain ⟨m, d, D, hm, hd, hD, h⟩ := hR.1
  rcases in6 x 12 (by decide) with hx | ⟨p, hp, rfl⟩
  · refine op_ask hR ?_ (fun kj bj Tj O => c_X4_untilDry_out l G ca _ _ _ _ _ _ _ _ _ _ _ _ _ _ _ _ O _ x hx) (c_X5_untilDry_out l G ca h5 a5 M x hx) (by decide); rfl
  · refine op_ask hR ?_ (fun kj bj Tj O => c_X4_untilDry_ok l G ca _ _ _ _ _ _ _ _ _ _ _ _ _ _ _ _ O _ p hp) (c_X5_untilDry_ok l G ca h5 a5 M p hp) (by decide); exact h.untilDry hm hp
theorem st_leastShoes (hR : Rel A v M) (x : Int32) : StepAt l G ca tL tM A h5 a5 v M yX4_leastShoes wsX4_leastShoes [.int x] yX5_leastShoes wsX5_leastShoes [.int x] := by
  obtain ⟨m, d, D, hm, hd, hD, h⟩ := hR.1
  rcases in6 x 6 (by decide) with hx | ⟨w, hw, rfl⟩
  · refine op_ask hR ?_ (fun kj bj Tj O => c_X4_leastShoes_out l G ca _ _ _ _ _ _ _ _ _ _ _ _ _ _ _ _ O _ x hx) (c_X5_leastShoes_out l G ca h5 a5 M x hx) (by decide); rfl
  · refine op_ask hR ?_ (fun kj bj Tj O => c_X4_leastShoes_ok l G ca _ _ _ _ _ _ _ _ _ _ _ _ _ _ _ _ O _ w hw) (c_X5_leastShoes_ok l G ca h5 a5 M w 4 hw rfl) (by decide); exact h.least hm hd hw
theorem st_longestWalk (hR : Rel A v M) (x y : Int32) : StepAt l G ca tL tM A h5 a5 v M yX4_longestWalk wsX4_longestWalk [.int x, .int y] yX5_longestWalk wsX5_longestWalk [.int x, .int y] := by
  obtain ⟨m, d, D, hm, hd, hD, h⟩ := hR.1
  rcases in6 x 6 (by decide) with hx | ⟨w, hw, rfl⟩
  · refine op_ask hR ?_ (fun kj bj Tj O => c_X4_longestWalk_out l G ca _ _ _ _ _ _ _ _ _ _ _ _ _ _ _ _ O _ x y hx) (c_X5_longestWalk_out l G ca h5 a5 M x y hx) (by decide); rfl
  by_cases c0 : y = 0
  · subst c0; refine op_ask hR ?_ (fun kj bj Tj O => c_X4_longestWalk_0 l G ca _ _ _ _ _ _ _ _ _ _ _ _ _ _ _ _ O _ w 12 hw rfl) (c_X5_longestWalk_0 l G ca h5 a5 M w 12 hw rfl) (by decide); exact congrArg Prod.fst (rs_longest h hm hd hw)
  by_cases c1 : y = 1
  · subst c1; refine op_ask hR ?_ (fun kj bj Tj O => c_X4_longestWalk_1 l G ca _ _ _ _ _ _ _ _ _ _ _ _ _ _ _ _ O _ w 12 hw rfl) (c_X5_longestWalk_1 l G ca h5 a5 M w 12 hw rfl) (by decide); exact congrArg Prod.snd (rs_longest h hm hd hw)
  · refine op_ask hR ?_ (fun kj bj Tj O => c_X4_longestWalk_bad l G ca _ _ _ _ _ _ _ _ _ _ _ _ _ _ _ _ O _ w y hw c0 c1) (c_X5_longestWalk_bad l G ca h5 a5 M w y hw c0 c1) (by decide); rfl
end OPS
