/-! undo, save, restore: alike -/
section OPS3
variable {l : Launch} {G : va_G} {ca : Nat → ClassId} {tL tM : Nat} {A : AD} {h5 : Nat} {a5 : Nat → Nat} {v : VV} {M : MM}
theorem perm_u {a b c d e f : va_W} : ((a ++ (b ++ (c ++ (d ++ (e ++ f))))) ++ []).Perm ((a ++ (c ++ (e ++ (d ++ (b ++ f))))) ++ []) := by
  rw [List.append_nil, List.append_nil]
  exact push ((pull (List.Perm.refl _)).trans (push ((pull (pull (List.Perm.refl _))).trans (push (pull (List.Perm.refl _))))))
theorem perm_s {a b c d e f q k o : va_W} (hq : q.Perm (k ++ o)) : (a ++ (b ++ (c ++ (d ++ (e ++ (f ++ q)))))).Perm ((a ++ (f ++ (k ++ (d ++ (b ++ (c ++ (e ++ o))))))) ++ []) := by
  rw [List.append_nil]
  refine push ((pull (pull (pull (pull (List.Perm.refl _))))).trans (push ?_))
  exact (pull (pull (pull (pull hq)))).trans (push (pull (pull (List.Perm.refl _))))
theorem perm_r {a b c d e f q j o k p : va_W} (he : e.Perm (j ++ o)) (hq : q.Perm (k ++ p)) : (a ++ (b ++ (c ++ (d ++ (e ++ (f ++ q)))))).Perm ((a ++ (f ++ (c ++ (j ++ (d ++ (k ++ (o ++ (b ++ p)))))))) ++ []) := by
  rw [List.append_nil]
  refine push ((pull (pull (pull (pull (List.Perm.refl _))))).trans (push ?_))
  refine (pull (List.Perm.refl _)).trans (push ?_)
  have h1 : (e ++ q).Perm (j ++ (o ++ q)) := by rw [← List.append_assoc]; exact he.append_right q
  refine (pull (pull h1)).trans (push ?_)
  refine (pull (List.Perm.refl _)).trans (push ?_)
  refine (pull (pull hq)).trans (push ?_)
  exact pull (List.Perm.refl _)
theorem st_undo (hR : Rel A v M) : StepAt l G ca tL tM A h5 a5 v M yX4_undo wsX4_undo [] yX5_undo wsX5_undo [] := by
  obtain ⟨r1, ⟨π, r2⟩, r3, r4, r5, r6, r7⟩ := hR
  have n6 := r2.1
  by_cases n0 : v.2.2.2.1 = 0
  · obtain ⟨O, h1, -⟩ := sts_pick ca A.2.1.2.1 A.2.2.1.1 v.2.2.2.2.2.1 6 0 (by omega)
    have hp0 := XW_pick (xo := A.1.1) (h := A.1.2.1) (hp := A.1.2.2.1) (hh := A.1.2.2.2.1) (sl := A.1.2.2.2.2.1) (ap := A.1.2.2.2.2.2.1) (ka := A.1.2.2.2.2.2.2.1) (a := A.2.1.1) (SL := SLW ca A v.2.2.2.2.2.2.1 v.2.2.2.2.2.2.2) (g := v.2.1) (np := v.2.2.1) (n := v.2.2.2.1) (rf := v.2.2.2.2.1) (S := v.1) (h1 (v.2.2.2.2.2.1 0))
    rw [updT_self] at hp0
    have c4 := (c_X4_undo_none l G ca A.1.1 A.1.2.2.1 A.1.2.2.2.2.1 A.1.2.2.2.1 A.1.2.2.2.2.2.2.1 v.2.2.2.1 v.2.2.2.2.1 A.1.2.1 A.2.1.1 v.1 (A.2.1.2.1 0) (A.2.2.1.1 0) (v.2.2.2.2.2.1 0) (paT ca A.1.2.2.1 A.1.2.2.2.2.2.1 (v.2.1, nI v.2.2.1) ++ (O ++ SLW ca A v.2.2.2.2.2.2.1 v.2.2.2.2.2.2.2)) n0).toS tL tM
    refine ⟨-5, v, M, ⟨r1, ⟨π, r2⟩, r3, r4, r5, r6, r7⟩, ?_, ((c_X5_undo_none l G ca h5 a5 M v.2.2.2.1 r3 n0).toS tL tM).room (by decide) (by decide) (by decide) (by decide)⟩
    exact (c4.frame (hp0.trans perm_u) (hp0.trans perm_u)).room (by decide) (by decide) (by decide) (by decide)
  · obtain ⟨u1, u2, u3, u4⟩ := r2.undo (z := m_z M) (Nat.pos_of_ne_zero n0)
    obtain ⟨O, h1, -⟩ := sts_pick ca A.2.1.2.1 A.2.2.1.1 v.2.2.2.2.2.1 6 (π (v.2.2.2.1 - 1)) u1
    have hp0 := XW_pick (xo := A.1.1) (h := A.1.2.1) (hp := A.1.2.2.1) (hh := A.1.2.2.2.1) (sl := A.1.2.2.2.2.1) (ap := A.1.2.2.2.2.2.1) (ka := A.1.2.2.2.2.2.2.1) (a := A.2.1.1) (SL := SLW ca A v.2.2.2.2.2.2.1 v.2.2.2.2.2.2.2) (g := v.2.1) (np := v.2.2.1) (n := v.2.2.2.1) (rf := v.2.2.2.2.1) (S := v.1) (h1 (v.2.2.2.2.2.1 (π (v.2.2.2.1 - 1))))
    have hp1 := XW_pick (xo := A.1.1) (h := A.1.2.1) (hp := A.1.2.2.1) (hh := A.1.2.2.2.1) (sl := A.1.2.2.2.2.1) (ap := A.1.2.2.2.2.2.1) (ka := A.1.2.2.2.2.2.2.1) (a := A.2.1.1) (SL := SLW ca A v.2.2.2.2.2.2.1 v.2.2.2.2.2.2.2) (g := v.2.1) (np := v.2.2.1) (n := v.2.2.2.1 - 1) (rf := v.2.2.2.2.1) (S := v.2.2.2.2.2.1 (π (v.2.2.2.1 - 1))) (h1 (v.2.2.2.2.2.1 (π (v.2.2.2.1 - 1))))
    rw [updT_self] at hp0 hp1
    have c4 := (c_X4_undo_ok l G ca A.1.1 A.1.2.2.1 A.1.2.2.2.2.1 A.1.2.2.2.1 A.1.2.2.2.2.2.2.1 v.2.2.2.1 v.2.2.2.2.1 A.1.2.1 A.2.1.1 v.1 (A.2.1.2.1 (π (v.2.2.2.1 - 1))) (A.2.2.1.1 (π (v.2.2.2.1 - 1))) (v.2.2.2.2.2.1 (π (v.2.2.2.1 - 1))) (paT ca A.1.2.2.1 A.1.2.2.2.2.2.1 (v.2.1, nI v.2.2.1) ++ (O ++ SLW ca A v.2.2.2.2.2.2.1 v.2.2.2.2.2.2.2)) (Nat.pos_of_ne_zero n0) n6 u2).toS tL tM
    refine ⟨nI (v.2.2.2.1 - 1), (v.2.2.2.2.2.1 (π (v.2.2.2.1 - 1)), v.2.1, v.2.2.1, v.2.2.2.1 - 1, v.2.2.2.2), (cpA (m_past M) (164 * (v.2.2.2.1 - 1)) (m_z M) 0 164, m_past M, nI (v.2.2.2.1 - 1), m_slots M, m_isSaved M, m_pad M, m_typed M, m_spot M, m_told M, m_toldMany M), ⟨u4, ⟨π, u3⟩, rfl, r4, r5, r6, r7⟩, ?_, ((c_X5_undo_ok l G ca h5 a5 M v.2.2.2.1 r3 (Nat.pos_of_ne_zero n0) n6).toS tL tM).room (by decide) (by decide) (by decide) (by decide)⟩
    exact (c4.frame (hp0.trans perm_u) (hp1.trans perm_u)).room (by decide) (by decide) (by decide) (by decide)
/-- the slots' references are the addresses -/
def SlOk (A : AD) : Prop := ∀ k, k < 2 → A.2.2.2 k = some (A.2.1.2.2 k)
theorem XV_slot (ca : Nat → ClassId) (A : AD) (v : VV) {k : Nat} (hk : k < 2) : ∃ O : va_W, ∀ (us : Nat → Int32) (X : SS), (XV ca A (v.1, v.2.1, v.2.2.1, v.2.2.2.1, v.2.2.2.2.1, v.2.2.2.2.2.1, us, updT v.2.2.2.2.2.2.2 k X)).Perm ((xoT A.1.1 A.1.2.1 A.1.2.2.1 A.1.2.2.2.1 A.1.2.2.2.2.1 ++ (slT ca A.1.2.2.2.2.1 A.1.2.2.2.2.2.2.2.1 A.1.2.2.2.2.2.2.2.2 A.2.2.2 us ++ (stT ca (A.2.1.2.2 k) (A.2.2.1.2 k) X ++ (stT ca A.1.2.1 A.2.1.1 v.1 ++ O)))) ++ []) := by
  obtain ⟨O, h1, -⟩ := sts_pick ca A.2.1.2.2 A.2.2.1.2 v.2.2.2.2.2.2.2 2 k hk
  exact ⟨paT ca A.1.2.2.1 A.1.2.2.2.2.2.1 (v.2.1, nI v.2.2.1) ++ (hiT ca A.1.2.2.2.1 A.1.2.2.2.2.2.2.1 (nI v.2.2.2.1) v.2.2.2.2.1 ++ (sts ca A.2.1.2.1 A.2.2.1.1 v.2.2.2.2.2.1 6 ++ O)), fun us X => perm_s (a := xoT A.1.1 A.1.2.1 A.1.2.2.1 A.1.2.2.2.1 A.1.2.2.2.2.1) (b := paT ca A.1.2.2.1 A.1.2.2.2.2.2.1 (v.2.1, nI v.2.2.1)) (c := hiT ca A.1.2.2.2.1 A.1.2.2.2.2.2.2.1 (nI v.2.2.2.1) v.2.2.2.2.1) (d := stT ca A.1.2.1 A.2.1.1 v.1) (e := sts ca A.2.1.2.1 A.2.2.1.1 v.2.2.2.2.2.1 6) (f := slT ca A.1.2.2.2.2.1 A.1.2.2.2.2.2.2.2.1 A.1.2.2.2.2.2.2.2.2 A.2.2.2 us) (h1 X)⟩
theorem st_save (hR : Rel A v M) (hA : SlOk A) (x : Int32) : StepAt l G ca tL tM A h5 a5 v M yX4_save wsX4_save [.int x] yX5_save wsX5_save [.int x] := by
  obtain ⟨m, d, D, hm, hd, hD, h⟩ := hR.1
  obtain ⟨r1, r2, r3, r4, r5, r6, r7⟩ := hR
  rcases in6 x 2 (by decide) with hx | ⟨k, hk, rfl⟩
  · obtain ⟨O, hO⟩ := XV_slot ca A v (k := 0) (by omega)
    have hp := hO v.2.2.2.2.2.2.1 (v.2.2.2.2.2.2.2 0)
    rw [updT_self] at hp
    refine ⟨-2, v, M, ⟨r1, r2, r3, r4, r5, r6, r7⟩, ?_, ((c_X5_save_out l G ca h5 a5 M x hx).toS tL tM).room (by decide) (by decide) (by decide) (by decide)⟩
    exact (((c_X4_save_out l G ca _ _ _ _ _ _ _ _ _ _ _ _ _ _ O x hx).toS tL tM).frame hp hp).room (by decide) (by decide) (by decide) (by decide)
  · obtain ⟨O, hO⟩ := XV_slot ca A v hk
    have hp := hO v.2.2.2.2.2.2.1 (v.2.2.2.2.2.2.2 k)
    rw [updT_self] at hp
    refine ⟨s_dy v.1, (v.1, v.2.1, v.2.2.1, v.2.2.2.1, v.2.2.2.2.1, v.2.2.2.2.2.1, upd v.2.2.2.2.2.2.1 k 1, updT v.2.2.2.2.2.2.2 k v.1), (m_z M, m_past M, m_states M, cpA (m_z M) 0 (m_slots M) (164 * k) 164, upd (m_isSaved M) k 1, m_pad M, m_typed M, m_spot M, m_told M, m_toldMany M), ⟨r1, r2, r3, r4, r5, r6, r7.save r1 hk⟩, ?_, ?_⟩
    · exact (((c_X4_save_ok l G ca _ _ _ _ _ _ _ _ _ _ _ _ _ _ O k hk (hA k hk)).toS tL tM).frame hp (hO _ _)).room (by decide) (by decide) (by decide) (by decide)
    · rw [h.dy, ← h.z4]
      exact ((c_X5_save_ok l G ca h5 a5 M k hk).toS tL tM).room (by decide) (by decide) (by decide) (by decide)
theorem st_restore (hR : Rel A v M) (hA : SlOk A) (x : Int32) : StepAt l G ca tL tM A h5 a5 v M yX4_restore wsX4_restore [.int x] yX5_restore wsX5_restore [.int x] := by
  obtain ⟨r1, ⟨π, r2⟩, r3, r4, r5, r6, r7⟩ := hR
  rcases in6 x 2 (by decide) with hx | ⟨k, hk, rfl⟩
  · obtain ⟨O, hO⟩ := XV_slot ca A v (k := 0) (by omega)
    have hp := hO v.2.2.2.2.2.2.1 (v.2.2.2.2.2.2.2 0)
    rw [updT_self] at hp
    refine ⟨-2, v, M, ⟨r1, ⟨π, r2⟩, r3, r4, r5, r6, r7⟩, ?_, ((c_X5_restore_out l G ca h5 a5 M x hx).toS tL tM).room (by decide) (by decide) (by decide) (by decide)⟩
    exact (((c_X4_restore_out l G ca _ _ _ _ _ _ _ _ _ _ _ _ _ _ O x hx).toS tL tM).frame hp hp).room (by decide) (by decide) (by decide) (by decide)
  · have hu := (r7 k hk).1
    by_cases c : v.2.2.2.2.2.2.1 k = 0
    · obtain ⟨O, hO⟩ := XV_slot ca A v hk
      have hp := hO v.2.2.2.2.2.2.1 (v.2.2.2.2.2.2.2 k)
      rw [updT_self] at hp
      refine ⟨-5, v, M, ⟨r1, ⟨π, r2⟩, r3, r4, r5, r6, r7⟩, ?_, ((c_X5_restore_none l G ca h5 a5 M k hk (hu ▸ c)).toS tL tM).room (by decide) (by decide) (by decide) (by decide)⟩
      exact (((c_X4_restore_none l G ca _ _ _ _ _ _ _ _ _ _ _ _ _ _ O k hk c).toS tL tM).frame hp hp).room (by decide) (by decide) (by decide) (by decide)
    · obtain ⟨j0, π', hj, hr, hH⟩ := r2.rec (z := m_z M) r1 (n820 := 820) rfl
      obtain ⟨O, h1, h2⟩ := sts_pick ca A.2.1.2.1 A.2.2.1.1 v.2.2.2.2.2.1 6 j0 hj
      obtain ⟨O2, h3, -⟩ := sts_pick ca A.2.1.2.2 A.2.2.1.2 v.2.2.2.2.2.2.2 2 k hk
      have h3 := h3 (v.2.2.2.2.2.2.2 k)
      rw [updT_self] at h3
      have hs0 := h1 (v.2.2.2.2.2.1 j0)
      rw [updT_self] at hs0
      have hp0 : (XV ca A v).Perm _ := perm_r (a := xoT A.1.1 A.1.2.1 A.1.2.2.1 A.1.2.2.2.1 A.1.2.2.2.2.1) (b := paT ca A.1.2.2.1 A.1.2.2.2.2.2.1 (v.2.1, nI v.2.2.1)) (c := hiT ca A.1.2.2.2.1 A.1.2.2.2.2.2.2.1 (nI v.2.2.2.1) v.2.2.2.2.1) (d := stT ca A.1.2.1 A.2.1.1 v.1) (f := slT ca A.1.2.2.2.2.1 A.1.2.2.2.2.2.2.2.1 A.1.2.2.2.2.2.2.2.2 A.2.2.2 v.2.2.2.2.2.2.1) hs0 h3
      have hp1 : (XV ca A (v.2.2.2.2.2.2.2 k, v.2.1, v.2.2.1, recN v.2.2.2.1, recR v.2.2.2.1 v.2.2.2.2.1, updT v.2.2.2.2.2.1 j0 v.1, v.2.2.2.2.2.2)).Perm _ := perm_r (a := xoT A.1.1 A.1.2.1 A.1.2.2.1 A.1.2.2.2.1 A.1.2.2.2.2.1) (b := paT ca A.1.2.2.1 A.1.2.2.2.2.2.1 (v.2.1, nI v.2.2.1)) (c := hiT ca A.1.2.2.2.1 A.1.2.2.2.2.2.2.1 (nI (recN v.2.2.2.1)) (recR v.2.2.2.1 v.2.2.2.2.1)) (d := stT ca A.1.2.1 A.2.1.1 (v.2.2.2.2.2.2.2 k)) (f := slT ca A.1.2.2.2.2.1 A.1.2.2.2.2.2.2.2.1 A.1.2.2.2.2.2.2.2.2 A.2.2.2 v.2.2.2.2.2.2.1) (h1 v.1) h3
      have hob : ∀ i, i < 6 → ∃ (v1 x : Nat) (y : List Value), v.2.2.2.2.1 i = some v1 ∧ (hiT ca A.1.2.2.2.1 A.1.2.2.2.2.2.2.1 (nI v.2.2.2.1) v.2.2.2.2.1 ++ (stT ca (A.2.1.2.1 j0) (A.2.2.1.1 j0) (v.2.2.2.2.2.1 j0) ++ (stT ca A.1.2.1 A.2.1.1 v.1 ++ (stT ca (A.2.1.2.2 k) (A.2.2.1.2 k) (v.2.2.2.2.2.2.2 k) ++ O))))[x]? = some (v1, .inr (3, y)) := by
        intro i hi
        have e := r2.2.2.2.1 i hi
        by_cases c : π i = j0
        · obtain ⟨x, hx⟩ := at_mem (W := hiT ca A.1.2.2.2.1 A.1.2.2.2.2.2.2.1 (nI v.2.2.2.1) v.2.2.2.2.1 ++ (stT ca (A.2.1.2.1 j0) (A.2.2.1.1 j0) (v.2.2.2.2.2.1 j0) ++ (stT ca A.1.2.1 A.2.1.1 v.1 ++ (stT ca (A.2.1.2.2 k) (A.2.2.1.2 k) (v.2.2.2.2.2.2.2 k) ++ O)))) (List.mem_append_right _ (List.mem_append_left _ (List.mem_cons_self ..)))
          exact ⟨A.2.1.2.1 j0, x, _, by rw [e, c], hx⟩
        · obtain ⟨y, hy⟩ := h2 (π i) (r2.2.1 i hi) c
          obtain ⟨x, hx⟩ := at_mem (W := hiT ca A.1.2.2.2.1 A.1.2.2.2.2.2.2.1 (nI v.2.2.2.1) v.2.2.2.2.1 ++ (stT ca (A.2.1.2.1 j0) (A.2.2.1.1 j0) (v.2.2.2.2.2.1 j0) ++ (stT ca A.1.2.1 A.2.1.1 v.1 ++ (stT ca (A.2.1.2.2 k) (A.2.2.1.2 k) (v.2.2.2.2.2.2.2 k) ++ O)))) (List.mem_append_right _ (List.mem_append_right _ (List.mem_append_right _ (List.mem_append_right _ hy))))
          exact ⟨A.2.1.2.1 (π i), x, y, e, hx⟩
      have hz := r7.restore (z := m_z M) hk c
      obtain ⟨m, d, D, hm, hd, hD, hh⟩ := id hz
      have c4 := (c_X4_restore_ok l G ca A.1.1 A.1.2.2.1 A.1.2.2.2.2.1 A.1.2.2.2.2.2.2.2.1 A.1.2.2.2.2.2.2.2.2 A.2.2.2 v.2.2.2.2.2.2.1 A.1.2.2.2.1 A.1.2.2.2.2.2.2.1 v.2.2.2.1 v.2.2.2.2.1 (A.2.1.2.1 j0) (A.2.2.1.1 j0) (v.2.2.2.2.2.1 j0) A.1.2.1 A.2.1.1 v.1 (A.2.1.2.2 k) (A.2.2.1.2 k) (v.2.2.2.2.2.2.2 k) O (paT ca A.1.2.2.1 A.1.2.2.2.2.2.1 (v.2.1, nI v.2.2.1) ++ O2) k r2.1 hr hob hk c (hA k hk)).toS tL tM
      refine ⟨s_dy (v.2.2.2.2.2.2.2 k), (v.2.2.2.2.2.2.2 k, v.2.1, v.2.2.1, recN v.2.2.2.1, recR v.2.2.2.1 v.2.2.2.2.1, updT v.2.2.2.2.2.1 j0 v.1, v.2.2.2.2.2.2), (cpA (m_slots M) (164 * k) (m_z M) 0 164, recP (m_past M) (m_z M) v.2.2.2.1 820, nI (recN v.2.2.2.1), m_slots M, m_isSaved M, m_pad M, m_typed M, m_spot M, m_told M, m_toldMany M), ⟨hz, ⟨π', hH⟩, rfl, r4, r5, r6, r7⟩, ?_, ?_⟩
      · exact (c4.frame hp0 hp1).room (by decide) (by decide) (by decide) (by decide)
      · rw [hh.dy, ← hh.z4]
        exact ((c_X5_restore_ok l G ca h5 a5 M k v.2.2.2.1 820 r3 r2.1 rfl hk (fun q => c (hu.trans q))).toS tL tM).room (by decide) (by decide) (by decide) (by decide)
end OPS3
