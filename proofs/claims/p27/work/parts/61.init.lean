/-! the start: classes, tables, the worlds of new objects -/
abbrev AA (s : State) : Nat → Prop := fun q => s.heap.size ≤ q
theorem law_ev {s : State} {b : Addr} (hts : ∀ w ∈ lw_tbl, w.before #[Value.ref b] s = true) : ∃ (G : va_G) (ca : Nat → ClassId), EV G ca s := by
  obtain ⟨c0, i0, k0⟩ := u_known (C := RX0) (T := TX0) (N := 2) (n := 2) hts inX0 (hts (.instantiable RX0 2) (by decide +kernel))
  obtain ⟨c1, i1, k1⟩ := u_known (C := RX1) (T := TX1) (N := 2) (n := 2) hts inX1 (hts (.instantiable RX1 2) (by decide +kernel))
  obtain ⟨c2, i2, k2⟩ := u_known (C := RX2) (T := TX2) (N := 2) (n := 2) hts inX2 (hts (.instantiable RX2 2) (by decide +kernel))
  obtain ⟨c3, i3, k3⟩ := u_known (C := RX3) (T := TX3) (N := 15) (n := 15) hts inX3 (hts (.instantiable RX3 15) (by decide +kernel))
  obtain ⟨c4, i4, k4⟩ := u_known (C := RX4) (T := TX4) (N := 4) (n := 4) hts inX4 (hts (.instantiable RX4 4) (by decide +kernel))
  obtain ⟨G, hG⟩ : ∃ G : va_G, ∀ (k : Nat) (q : vw_C), vwCl[k]? = some q → u_Kn s q.1 q.2.1 q.2.2 (G.1 k) (G.2 k) := by
    refine ⟨(fun k => match k with | 0 => c0 | 1 => c1 | 2 => c2 | 3 => c3 | _ => c4, fun k => match k with | 0 => i0 | 1 => i1 | 2 => i2 | 3 => i3 | _ => i4), ?_⟩
    intro k q hq
    match k, hq with
    | 0, hq => cases hq; exact k0
    | 1, hq => cases hq; exact k1
    | 2, hq => cases hq; exact k2
    | 3, hq => cases hq; exact k3
    | 4, hq => cases hq; exact k4
    | k + 5, hq => simp [vwCl] at hq
  obtain ⟨cI, kI, pI, a1, a2, a3⟩ := Cond.arrayClass_spec (hts (.arrayClass .int) (by decide +kernel))
  obtain ⟨cC, kC, pC, d1, d2, d3⟩ := Cond.arrayClass_spec (hts (.arrayClass .char) (by decide +kernel))
  obtain ⟨cZ, kZ, pZ, e1, e2, e3⟩ := Cond.arrayClass_spec (hts (.arrayClass .boolean) (by decide +kernel))
  obtain ⟨comp, cQ, kQ, q1, q2, q3, q4, q5⟩ := Cond.arrayOver_spec (hts (.arrayOver (.object "PuddleMinistries$Street")) (by decide +kernel))
  refine ⟨G, fun k => match k with | 0 => cI | 1 => cC | 2 => cZ | _ => cQ, ⟨hG, ?_⟩, va_Nw.of rfl (hts nst0 (by decide +kernel)), va_Nw.of rfl (hts nst1 (by decide +kernel)), va_Nw.of rfl (hts nst2 (by decide +kernel)), va_Nw.of rfl (hts nst3 (by decide +kernel)), va_Nw.of rfl (hts nst4 (by decide +kernel))⟩
  intro k q hk
  match k, hk with
  | 0, hk => cases hk; exact ⟨fun N z => ⟨(fun k h => by cases h), kI, a2, pI, a3⟩, a1⟩
  | 1, hk => cases hk; exact ⟨fun N z => ⟨(fun k h => by cases h), kC, d2, pC, d3⟩, d1⟩
  | 2, hk => cases hk; exact ⟨fun N z => ⟨(fun k h => by cases h), kZ, e2, pZ, e3⟩, e1⟩
  | 3, hk => cases hk; exact ⟨fun N z => ⟨(fun k h => by cases h), kQ, q3, comp, q4⟩, kQ, comp, q3, q4, q1, q5⟩
  | k + 4, hk => simp [TYS] at hk
theorem law_tab {s : State} {b : Addr} (hts : ∀ w ∈ lw_tbl, w.before #[Value.ref b] s = true) {n : String} {f : Nat → Int32} (h1 : (Cond.arrayOf (.static "PuddleMinistries" n "[I") .int).before #[Value.ref b] s = true) (h2 : (Cond.eq (.length (.static "PuddleMinistries" n "[I")) (.int 4)).before #[Value.ref b] s = true)
    (h3 : ∀ j : Nat, j < 4 → (Cond.eq (.elem (.static "PuddleMinistries" n "[I") (.int (Int32.ofNat j))) (.int (f j))).before #[Value.ref b] s = true) (h4 : (Cond.laysStatic "PuddleMinistries" n "[I").before #[Value.ref b] s = true) : ∃ t : Nat, va_Z "PuddleMinistries" n "[I" (.ref t) (AA s) s s.heap ∧ va_T .int t 4 (fun k => .int (f k)) (AA s) s s.heap := by
  have hA : ∀ a : Nat, a < s.heap.size → ¬ AA s a := fun a ha => Nat.not_le.mpr ha
  obtain ⟨t, g1, g2⟩ := va_Tof (N := 4) (f := fun k => .int (f k)) (A := AA s) (by decide) h1 (va_eqt h2) (fun j hj => va_eqt (h3 j hj)) hA
  exact ⟨t, va_Zref h4 (hts (.initialized "PuddleMinistries") (by decide +kernel)) g1 hA, g2⟩
theorem law_stats {s : State} {b : Addr} (hts : ∀ w ∈ lw_tbl, w.before #[Value.ref b] s = true) (hgv : (Jvm.Cond.and given_1 narrow_1).before #[Value.ref b] s = true) : ∃ tF tL tM : Nat, SX tF (AA s) s ∧ SY tL tM (AA s) s := by
  have hs := flat_of_before _ hgv
  obtain ⟨tF, f1, f2⟩ := law_tab (n := "FIRST_SETTING") (f := fst4) hts (hs _ (by decide +kernel)) (hs _ (by decide +kernel)) (fun j hj => by
    rcases (show j = 0 ∨ j = 1 ∨ j = 2 ∨ j = 3 by omega) with rfl | rfl | rfl | rfl <;> exact hs _ (by decide +kernel)) (hts _ (by decide +kernel))
  obtain ⟨tL, l1, l2⟩ := law_tab (n := "LEAST_SETTING") (f := lst4) hts (hs _ (by decide +kernel)) (hs _ (by decide +kernel)) (fun j hj => by
    rcases (show j = 0 ∨ j = 1 ∨ j = 2 ∨ j = 3 by omega) with rfl | rfl | rfl | rfl <;> exact hs _ (by decide +kernel)) (hts _ (by decide +kernel))
  obtain ⟨tM, m1, m2⟩ := law_tab (n := "MOST_SETTING") (f := mst4) hts (hs _ (by decide +kernel)) (hs _ (by decide +kernel)) (fun j hj => by
    rcases (show j = 0 ∨ j = 1 ∨ j = 2 ∨ j = 3 by omega) with rfl | rfl | rfl | rfl <;> exact hs _ (by decide +kernel)) (hts _ (by decide +kernel))
  exact ⟨tF, tL, tM, ⟨va_Nw.of rfl (hts nstF (by decide +kernel)), va_AO.of (hts (.arrayOver (.object "PuddleMinistries$Street")) (by decide +kernel)), f1, f2⟩, l1, l2, m1, m2⟩
def N0c : NN := (fun k => if k = 0 then 3 else if k = 1 then 2 else if k = 2 then 15 else 5, fun _ => 20, fun _ => 0, fun _ => 0, fun _ => 0, fun _ => 0, 0, 0, 0)
theorem Rn0 : Rn S0c N0c := ⟨by decide +kernel, by decide +kernel, by decide +kernel, by decide +kernel, by decide +kernel, by decide +kernel, rfl, rfl, rfl, by decide +kernel, by decide +kernel⟩
theorem Bd0 : Bd 0 N0c := ⟨by decide, by decide, by decide, by decide, by decide +kernel, by decide +kernel, by decide +kernel, by decide +kernel, by decide, by decide, by decide⟩
def V0 (rf : Nat → Option Nat) : VV := (S0c, fun _ => 0, 0, 0, rf, fun _ => S0c, fun _ => 0, fun _ => S0c)
theorem Ab0 {A : AD} {rf : Nat → Option Nat} (h : ∀ i, i < 6 → rf i = some (A.2.1.2.1 i)) (hA : SlOk A) : Ab A (V0 rf) 0 (fun _ => S0c) (fun _ => none) :=
  ⟨rfl, rfl, ⟨fun i => i, Nat.zero_le _, fun i hi => hi, fun i j _ _ e => e, h, fun i hi => absurd hi (Nat.not_lt_zero i)⟩, fun j _ => ⟨fun _ => rfl, fun X q => (by cases q)⟩, hA⟩
/-- the addresses that the constructor leaves -/
abbrev U0 : Type := (Nat × Nat × Nat × Nat) × (Nat → Nat) × Nat × (Nat × (Nat → Option Nat) × (Nat → Nat) × (Nat → Nat → Nat)) × ((Nat × Nat) × (Nat → Option Nat) × (Nat → Nat) × (Nat → Nat → Nat))
def A0 (xo : Nat) (u : U0) : AD := ((xo, u.1.1, u.1.2.1, u.1.2.2.1, u.1.2.2.2, u.2.2.1, u.2.2.2.1.1, u.2.2.2.2.1.1, u.2.2.2.2.1.2), (u.2.1, u.2.2.2.1.2.2.1, u.2.2.2.2.2.2.1), (u.2.2.2.1.2.2.2, u.2.2.2.2.2.2.2), u.2.2.2.2.2.1)
theorem perm_0 {x sA p h a0 a1 a2 a3 a4 a5 f k0 k1 : va_W} : ([] ++ ((x ++ (sA ++ (p ++ ((h ++ (a0 ++ (a1 ++ (a2 ++ (a3 ++ (a4 ++ a5)))))) ++ (f ++ (k0 ++ k1)))))) ++ [])).Perm (x ++ (p ++ (h ++ (sA ++ ((((((([] ++ a0) ++ a1) ++ a2) ++ a3) ++ a4) ++ a5) ++ (f ++ (([] ++ k0) ++ k1))))))) := by
  simp only [List.append_nil, List.nil_append]
  refine push ?_
  refine (pull (List.Perm.refl _)).trans (push ?_)
  rw [List.append_assoc h]
  refine (pull (List.Perm.refl _)).trans (push (push ?_))
  simp only [List.append_assoc]
  exact List.Perm.refl _
theorem LW0 {ca : Nat → ClassId} {xo : Nat} (u : U0) : ([] ++ ((xoT xo u.1.1 u.1.2.1 u.1.2.2.1 u.1.2.2.2 ++ (stT ca u.1.1 u.2.1 S0c ++ (paT ca u.1.2.1 u.2.2.1 (fun _ => 0, nI 0) ++ ((hiT ca u.1.2.2.1 u.2.2.2.1.1 (nI 0) u.2.2.2.1.2.1 ++ (stT ca (u.2.2.2.1.2.2.1 0) (u.2.2.2.1.2.2.2 0) S0c ++ (stT ca (u.2.2.2.1.2.2.1 1) (u.2.2.2.1.2.2.2 1) S0c ++ (stT ca (u.2.2.2.1.2.2.1 2) (u.2.2.2.1.2.2.2 2) S0c ++ (stT ca (u.2.2.2.1.2.2.1 3) (u.2.2.2.1.2.2.2 3) S0c ++ (stT ca (u.2.2.2.1.2.2.1 4) (u.2.2.2.1.2.2.2 4) S0c ++ (stT ca (u.2.2.2.1.2.2.1 5) (u.2.2.2.1.2.2.2 5) S0c))))))) ++ (slT ca u.1.2.2.2 u.2.2.2.2.1.1 u.2.2.2.2.1.2 u.2.2.2.2.2.1 (fun _ => 0) ++ (stT ca (u.2.2.2.2.2.2.1 0) (u.2.2.2.2.2.2.2 0) S0c ++ (stT ca (u.2.2.2.2.2.2.1 1) (u.2.2.2.2.2.2.2 1) S0c))))))) ++ [])).Perm (XV ca (A0 xo u) (V0 u.2.2.2.1.2.1)) := perm_0
