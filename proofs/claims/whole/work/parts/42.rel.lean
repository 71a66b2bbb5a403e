/-! both worlds alike; a step of both -/
section REL
variable {l : Launch} {G : va_G} {ca : Nat → ClassId} {tL tM : Nat}
abbrev VV : Type := SS × (Nat → Int32) × Nat × Nat × (Nat → Option Nat) × (Nat → SS) × (Nat → Int32) × (Nat → SS)
/-- the class's addresses: xo h hp hh sl ap ka ka2 ua; a k k2; b b2; srf -/
abbrev AD : Type := (Nat × Nat × Nat × Nat × Nat × Nat × Nat × Nat × Nat) × ((Nat → Nat) × (Nat → Nat) × (Nat → Nat)) × ((Nat → Nat → Nat) × (Nat → Nat → Nat)) × (Nat → Option Nat)
def SLW (ca : Nat → ClassId) (A : AD) (us : Nat → Int32) (T2 : Nat → SS) : va_W := slT ca A.1.2.2.2.2.1 A.1.2.2.2.2.2.2.2.1 A.1.2.2.2.2.2.2.2.2 A.2.2.2 us ++ sts ca A.2.1.2.2 A.2.2.1.2 T2 2
def XV (ca : Nat → ClassId) (A : AD) (v : VV) : va_W := XW ca A.1.1 A.1.2.1 A.1.2.2.1 A.1.2.2.2.1 A.1.2.2.2.2.1 A.1.2.2.2.2.2.1 A.1.2.2.2.2.2.2.1 A.2.1.1 A.2.1.2.1 A.2.2.1.1 (SLW ca A v.2.2.2.2.2.2.1 v.2.2.2.2.2.2.2) v.2.1 v.2.2.1 v.2.2.2.1 v.2.2.2.2.1 v.1 v.2.2.2.2.2.1
def Rel (A : AD) (v : VV) (M : MM) : Prop := RSx v.1 (m_z M) ∧ (∃ π, RHist v.2.2.2.1 v.2.2.2.2.1 A.2.1.2.1 π v.2.2.2.2.2.1 (m_past M)) ∧ m_states M = nI v.2.2.2.1 ∧ v.2.1 = m_pad M ∧ m_typed M = nI v.2.2.1 ∧ v.2.2.1 ≤ 60 ∧ RSlot v.2.2.2.2.2.2.1 (m_isSaved M) v.2.2.2.2.2.2.2 (m_slots M)
def rm8 : Room := { frames := 8, cells := 0, slots := 0, locals := 290 }
def StepAt (l : Launch) (G : va_G) (ca : Nat → ClassId) (tL tM : Nat) (A : AD) (h5 : Nat) (a5 : Nat → Nat) (v : VV) (M : MM) (y4 : MethodName) (ws4 : List Cond) (as4 : List Value) (y5 : MethodName) (ws5 : List Cond) (as5 : List Value) : Prop :=
  ∃ (r : Int32) (v' : VV) (M' : MM), Rel A v' M' ∧ CtS l y4 ws4 rm8 (.ref A.1.1 :: as4) G ca tL tM (XV ca A v) (XV ca A v') r ∧ CtS l y5 ws5 rm8 (.ref h5 :: as5) G ca tL tM (moT ca h5 a5 M) (moT ca h5 a5 M') r
variable {A : AD} {h5 : Nat} {a5 : Nat → Nat} {v : VV} {M : MM} {y4 y5 : MethodName} {ws4 ws5 : List Cond} {as4 as5 : List Value}
/-- nothing changes -/
theorem op_ask {r4 r5 : Int32} {rm4 rm5 : Room} (hR : Rel A v M) (hr : r4 = r5)
    (h4 : ∀ (kj : Nat) (bj : Nat → Nat) (Tj : SS) (O : va_W), CtI l y4 ws4 rm4 (.ref A.1.1 :: as4) G ca (xoT A.1.1 A.1.2.1 A.1.2.2.1 A.1.2.2.2.1 A.1.2.2.2.2.1 ++ (paT ca A.1.2.2.1 A.1.2.2.2.2.2.1 (v.2.1, nI v.2.2.1) ++ (hiT ca A.1.2.2.2.1 A.1.2.2.2.2.2.2.1 (nI v.2.2.2.1) v.2.2.2.2.1 ++ (stT ca kj bj Tj ++ (stT ca A.1.2.1 A.2.1.1 v.1 ++ (O ++ SLW ca A v.2.2.2.2.2.2.1 v.2.2.2.2.2.2.2)))))) (xoT A.1.1 A.1.2.1 A.1.2.2.1 A.1.2.2.2.1 A.1.2.2.2.2.1 ++ (paT ca A.1.2.2.1 A.1.2.2.2.2.2.1 (v.2.1, nI v.2.2.1) ++ (hiT ca A.1.2.2.2.1 A.1.2.2.2.2.2.2.1 (nI v.2.2.2.1) v.2.2.2.2.1 ++ (stT ca kj bj Tj ++ (stT ca A.1.2.1 A.2.1.1 v.1 ++ (O ++ SLW ca A v.2.2.2.2.2.2.1 v.2.2.2.2.2.2.2)))))) r4)
    (h5c : CtI l y5 ws5 rm5 (.ref h5 :: as5) G ca (moT ca h5 a5 M) (moT ca h5 a5 M) r5) (hroom : (rm4.frames ≤ 8 ∧ rm4.cells ≤ 0 ∧ rm4.slots ≤ 0 ∧ rm4.locals ≤ 290) ∧ (rm5.frames ≤ 8 ∧ rm5.cells ≤ 0 ∧ rm5.slots ≤ 0 ∧ rm5.locals ≤ 290)) : StepAt l G ca tL tM A h5 a5 v M y4 ws4 as4 y5 ws5 as5 := by
  subst hr
  obtain ⟨⟨q1, q2, q3, q4⟩, q5, q6, q7, q8⟩ := hroom
  exact ⟨r4, v, M, hR, (ask_step (fun kj bj Tj O => (h4 kj bj Tj O).toS tL tM)).room q1 q2 q3 q4, (h5c.toS tL tM).room q5 q6 q7 q8⟩
/-- the state changes and is recorded -/
theorem op_rec {r4 r5 : Int32} {rm4 rm5 : Room} {S' : SS} {z' : Nat → Int32} {n820 : Nat} (h820 : n820 = 820) (hR : Rel A v M) (hr : r4 = r5) (hS : RSx S' z')
    (h4 : ∀ (kj : Nat) (bj : Nat → Nat) (Tj : SS) (O : va_W), recT v.2.2.2.1 v.2.2.2.2.1 = some kj → (∀ i, i < 6 → ∃ (v1 x : Nat) (y : List Value), v.2.2.2.2.1 i = some v1 ∧ (hiT ca A.1.2.2.2.1 A.1.2.2.2.2.2.2.1 (nI v.2.2.2.1) v.2.2.2.2.1 ++ (stT ca kj bj Tj ++ (stT ca A.1.2.1 A.2.1.1 v.1 ++ O)))[x]? = some (v1, .inr (3, y))) →
      CtS l y4 ws4 rm4 (.ref A.1.1 :: as4) G ca tL tM (xoT A.1.1 A.1.2.1 A.1.2.2.1 A.1.2.2.2.1 A.1.2.2.2.2.1 ++ (paT ca A.1.2.2.1 A.1.2.2.2.2.2.1 (v.2.1, nI v.2.2.1) ++ (hiT ca A.1.2.2.2.1 A.1.2.2.2.2.2.2.1 (nI v.2.2.2.1) v.2.2.2.2.1 ++ (stT ca kj bj Tj ++ (stT ca A.1.2.1 A.2.1.1 v.1 ++ (O ++ SLW ca A v.2.2.2.2.2.2.1 v.2.2.2.2.2.2.2)))))) (xoT A.1.1 A.1.2.1 A.1.2.2.1 A.1.2.2.2.1 A.1.2.2.2.2.1 ++ (paT ca A.1.2.2.1 A.1.2.2.2.2.2.1 (v.2.1, nI v.2.2.1) ++ (hiT ca A.1.2.2.2.1 A.1.2.2.2.2.2.2.1 (nI (recN v.2.2.2.1)) (recR v.2.2.2.1 v.2.2.2.2.1) ++ (stT ca kj bj v.1 ++ (stT ca A.1.2.1 A.2.1.1 S' ++ (O ++ SLW ca A v.2.2.2.2.2.2.1 v.2.2.2.2.2.2.2)))))) r4)
    (h5c : CtI l y5 ws5 rm5 (.ref h5 :: as5) G ca (moT ca h5 a5 M) (moT ca h5 a5 (z', recP (m_past M) (m_z M) v.2.2.2.1 n820, nI (recN v.2.2.2.1), m_slots M, m_isSaved M, m_pad M, m_typed M, m_spot M, m_told M, m_toldMany M)) r5)
    (hroom : (rm4.frames ≤ 8 ∧ rm4.cells ≤ 0 ∧ rm4.slots ≤ 0 ∧ rm4.locals ≤ 290) ∧ (rm5.frames ≤ 8 ∧ rm5.cells ≤ 0 ∧ rm5.slots ≤ 0 ∧ rm5.locals ≤ 290)) : StepAt l G ca tL tM A h5 a5 v M y4 ws4 as4 y5 ws5 as5 := by
  subst hr
  obtain ⟨⟨q1, q2, q3, q4⟩, q5, q6, q7, q8⟩ := hroom
  obtain ⟨r1, ⟨π, r2⟩, r3, r4', r5', r6, r7⟩ := hR
  obtain ⟨j0, π', g1, g2⟩ := rec_step (SL := SLW ca A v.2.2.2.2.2.2.1 v.2.2.2.2.2.2.2) r2 r1 h820 h4
  exact ⟨r4, (S', v.2.1, v.2.2.1, recN v.2.2.2.1, recR v.2.2.2.1 v.2.2.2.2.1, updT v.2.2.2.2.2.1 j0 v.1, v.2.2.2.2.2.2.1, v.2.2.2.2.2.2.2), (z', recP (m_past M) (m_z M) v.2.2.2.1 n820, nI (recN v.2.2.2.1), m_slots M, m_isSaved M, m_pad M, m_typed M, m_spot M, m_told M, m_toldMany M), ⟨hS, ⟨π', g1⟩, rfl, r4', r5', r6, r7⟩, g2.room q1 q2 q3 q4, (h5c.toS tL tM).room q5 q6 q7 q8⟩
theorem Rel.n6 (hR : Rel A v M) : v.2.2.2.1 ≤ 6 := hR.2.1.elim (fun _ h => h.1)
theorem Rel.st (hR : Rel A v M) : m_states M = nI v.2.2.2.1 := hR.2.2.1
theorem in6 (x : Int32) (N : Nat) (hN : N < 2 ^ 31) : (x < 0 ∨ nI N ≤ x) ∨ ∃ p, p < N ∧ x = nI p := by
  by_cases c : x < 0
  · exact Or.inl (Or.inl c)
  · by_cases c2 : nI N ≤ x
    · exact Or.inl (Or.inr c2)
    · obtain ⟨j, hj, rfl⟩ := nI_of c
      refine Or.inr ⟨j, ?_, rfl⟩
      exact Nat.lt_of_not_le (fun q => c2 ((nI_leI hN hj).mpr q))
theorem st_pay (hR : Rel A v M) (x : Int32) : StepAt l G ca tL tM A h5 a5 v M yX4_pay wsX4_pay [.int x] yX5_pay wsX5_pay [.int x] := by
  rcases in6 x 6 (by decide) with hx | ⟨w, hw, rfl⟩
  · exact op_ask hR rfl (fun kj bj Tj O => c_X4_pay_out l G ca _ _ _ _ _ _ _ _ _ _ _ _ _ _ _ _ O _ x hx) (c_X5_pay_out l G ca h5 a5 M x hx) (by decide)
  · obtain ⟨m, d, D, hm, hd, hD, h⟩ := hR.1
    refine op_rec (n820 := 820) rfl hR (h.ow w hw) (S' := (s_se v.1, s_br v.1, s_wa v.1, s_cr v.1, s_sh v.1, upd (s_ow v.1) w 0, upd (s_pa v.1) w (s_pa v.1 w + s_ow v.1 w), s_cb v.1, s_pd v.1, s_fz v.1, s_dk v.1, s_dy v.1, s_fe v.1, s_dr v.1, s_dn v.1)) ?_ (fun kj bj Tj O e1 e2 => (c_X4_pay_ok l G ca _ _ _ _ _ _ _ _ _ _ _ _ _ _ _ _ O _ w hR.n6 e1 e2 hw).toS tL tM) (c_X5_pay_ok l G ca h5 a5 M w _ 820 hR.st hR.n6 rfl hw) (by decide)
    refine ⟨m, d, D, hm, hd, hD, ?_⟩
    have g1 := h.u_ow (w := w) (x := 0) hw
    have g2 := g1.u_pa (w := w) (x := upd (m_z M) (68 + 4 * w + 1) 0 (68 + 4 * w + 2) + m_z M (68 + 4 * w + 1)) hw
    rw [h.pa w hw, h.ow w hw, show m_z M (68 + 4 * w + 2) = upd (m_z M) (68 + 4 * w + 1) 0 (68 + 4 * w + 2) by rw [upd_ne (by omega)]]
    exact g2
end REL
