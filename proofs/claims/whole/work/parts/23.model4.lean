/-! the reference: its public methods -/
theorem inC_1 {v lo hi : Int32} (h1 : ¬ v < lo) (h2 : v ≤ hi) : inC v lo hi = 1 := by unfold inC; rw [if_neg h1, if_neg (Int32.not_lt.mpr h2)]
theorem inC_0 {v lo hi : Int32} (h : v < lo ∨ ¬ v ≤ hi) : inC v lo hi = 0 := by
  unfold inC
  split
  · rfl
  · rename_i c
    rw [if_pos (Int32.not_le.mp (h.resolve_left c))]
theorem inC_p {p : Nat} (h : p < 12) : inC (nI p) 0 11 = 1 := inC_1 (nI_pos (by omega)) (nI_le (a := p) (b := 11) (by omega) (by omega))
theorem inC_w {p : Nat} (h : p < 6) : inC (nI p) 0 5 = 1 := inC_1 (nI_pos (by omega)) (nI_le (a := p) (b := 5) (by omega) (by omega))
theorem inC_k {p : Nat} (h : p < 2) : inC (nI p) 0 1 = 1 := inC_1 (nI_pos (by omega)) (nI_le (a := p) (b := 1) (by omega) (by omega))
theorem le_out {x : Int32} {k : Nat} (hk : k < 1000) (h : x < 0 ∨ nI (k + 1) ≤ x) : x < 0 ∨ ¬ x ≤ nI k := h.imp id (fun q z => by
  have h1 := Int32.le_iff_toInt_le.mp q
  have h2 := Int32.le_iff_toInt_le.mp z
  rw [nI_toInt (by omega)] at h1 h2
  omega)
theorem inC_po {x : Int32} (h : x < 0 ∨ nI 12 ≤ x) : inC x 0 11 = 0 := inC_0 (le_out (k := 11) (by omega) h)
theorem inC_wo {x : Int32} (h : x < 0 ∨ nI 6 ≤ x) : inC x 0 5 = 0 := inC_0 (le_out (k := 5) (by omega) h)
theorem inC_ko {x : Int32} (h : x < 0 ∨ nI 2 ≤ x) : inC x 0 1 = 0 := inC_0 (le_out (k := 1) (by omega) h)
theorem inC_01 {u : Int32} (h0 : ¬ u = 0) (h1 : ¬ u = 1) : inC u 0 1 = 0 := by
  refine inC_0 ?_
  by_cases c : u < 0
  · exact Or.inl c
  · refine Or.inr (fun q => ?_)
    have a1 := Int32.le_iff_toInt_le.mp q
    have a2 := Int32.le_iff_toInt_le.mp (Int32.not_lt.mp c)
    have a3 : (1 : Int32).toInt = 1 := rfl
    have a4 : (0 : Int32).toInt = 0 := rfl
    rw [a3] at a1; rw [a4] at a2
    rcases (show u.toInt = 0 ∨ u.toInt = 1 by omega) with z | z
    · exact h0 (Int32.toInt_inj.mp (by rw [z]; rfl))
    · exact h1 (Int32.toInt_inj.mp (by rw [z]; rfl))
def recP (past z : Nat → Int32) (k n820 : Nat) : Nat → Int32 := if k < 6 then cpA z 0 past (164 * k) 164 else cpA z 0 (shP past n820) 820 164
theorem c_X5_record (l : Launch) (G : va_G) (ca : Nat → ClassId) (h : Nat) (a : Nat → Nat) (M : MM) (k6 n820 : Nat) (hst : m_states M = nI k6) (hk6 : k6 ≤ 6) (h820 : n820 = 820) : CtV l yX5_record wsX5_record ({ frames := 1, cells := 0, slots := 0, locals := 24 }) [.ref h] G ca (moT ca h a M) (moT ca h a (m_z M, recP (m_past M) (m_z M) k6 n820, nI (recN k6), m_slots M, m_isSaved M, m_pad M, m_typed M, m_spot M, m_told M, m_toldMany M)) := by
  by_cases hn : k6 < 6
  · rw [recP, recN, if_pos hn, if_pos hn]
    exact c_X5_record_lt l G ca h a M k6 hst hn
  · obtain rfl : k6 = 6 := by omega
    rw [recP, recN, if_neg hn, if_neg hn]
    exact c_X5_record_eq l G ca h a M n820 hst h820
set_option maxHeartbeats 4000000 in
set_option maxRecDepth 100000 in
theorem c_X5_brim_out (l : Launch) (G : va_G) (ca : Nat → ClassId) (h : Nat) (a : Nat → Nat) (M : MM) (x : Int32) (v : Int32) (hx0 : x < 0 ∨ nI 12 ≤ x) : CtI l yX5_brim wsX5_brim ({ frames := 2, cells := 0, slots := 0, locals := 42 }) [.ref h, .int x, .int v] G ca (moT ca h a M) (moT ca h a M) (-1) := by
  refine CtI.ofW (cc := cX5_brim) (maxL := 4) (rt := .int) (by decide) rfl (Nat.le_of_ble_eq_true rfl) rfl ?_
  intro pr en s m be me c A ls Q H hx hb hml hts hown hev hP hD hA hS hl hret
  have hown : s.vm.findClass RX5 = some m.cls := hown
  have hl : lv_has ls 4 [(0, .ref h), (1, .int x), (2, .int v)] := hl
  have in_wsX50 : ∀ w ∈ wsX50, w ∈ wsX5_brim := fun _ h => List.mem_cons_of_mem _ (List.mem_append_right _ h)
  refine lv_iload_n hx hb dX5_brim_0 rfl (lv_at hl 1 rfl) ?_
  refine goI0 (va_runS (As := [.int x]) (rest := []) ⟨hx, hb, hml, hown, hts⟩ (CtI.use (c_X5_isPuddle l G ca x) H.size) (va_cwS 1 hts gX5_brim_X5_isPuddle rfl rfl rfl (by decide +kernel) ⟨Nat.le_of_ble_eq_true rfl, Nat.le_of_ble_eq_true rfl⟩) (pcW_S hev P_nil (D_nil (A := A))) rfl rfl hl.1 rfl (lv_room (Nat.le_of_ble_eq_true rfl)) dX5_brim_1 ⟨Nat.zero_le _, Nat.zero_le _⟩) hP hS hA (fun H locs hP hS => ?_)
  refine lv_eqi (y := 0) (by exact inC_po hx0) ?_
  refine lv_if_ne (tgt := 9) hx hb dX5_brim_4 (by decide) (fun c_1 => ?_) (fun c_1 => ?_)
  · skip
    exact absurd (by decide) c_1
  · skip
    refine lv_iconst (v := (-1)) hx hb dX5_brim_7 (by decide) ?_
    exact hret _ _ _ _ hP hS dX5_brim_8
set_option maxHeartbeats 4000000 in
set_option maxRecDepth 100000 in
theorem c_X5_brim_bad (l : Launch) (G : va_G) (ca : Nat → ClassId) (h : Nat) (a : Nat → Nat) (M : MM) (p : Nat) (v : Int32) (hp1 : p < 12) (hv : v < 1 ∨ ¬ v ≤ 60) : CtI l yX5_brim wsX5_brim ({ frames := 2, cells := 0, slots := 0, locals := 42 }) [.ref h, .int (nI p), .int v] G ca (moT ca h a M) (moT ca h a M) (-2) := by
  refine CtI.ofW (cc := cX5_brim) (maxL := 4) (rt := .int) (by decide) rfl (Nat.le_of_ble_eq_true rfl) rfl ?_
  intro pr en s m be me c A ls Q H hx hb hml hts hown hev hP hD hA hS hl hret
  have hown : s.vm.findClass RX5 = some m.cls := hown
  have hl : lv_has ls 4 [(0, .ref h), (1, .int (nI p)), (2, .int v)] := hl
  have in_wsX50 : ∀ w ∈ wsX50, w ∈ wsX5_brim := fun _ h => List.mem_cons_of_mem _ (List.mem_append_right _ h)
  refine lv_iload_n hx hb dX5_brim_0 rfl (lv_at hl 1 rfl) ?_
  refine goI0 (va_runS (As := [.int (nI p)]) (rest := []) ⟨hx, hb, hml, hown, hts⟩ (CtI.use (c_X5_isPuddle l G ca (nI p)) H.size) (va_cwS 1 hts gX5_brim_X5_isPuddle rfl rfl rfl (by decide +kernel) ⟨Nat.le_of_ble_eq_true rfl, Nat.le_of_ble_eq_true rfl⟩) (pcW_S hev P_nil (D_nil (A := A))) rfl rfl hl.1 rfl (lv_room (Nat.le_of_ble_eq_true rfl)) dX5_brim_1 ⟨Nat.zero_le _, Nat.zero_le _⟩) hP hS hA (fun H locs hP hS => ?_)
  refine lv_eqi (y := 1) (by exact inC_p (by omega)) ?_
  refine lv_if_ne (tgt := 9) hx hb dX5_brim_4 (by decide) (fun c_1 => ?_) (fun c_1 => ?_)
  · skip
    refine lv_iload_n hx hb dX5_brim_9 rfl (lv_at hl 2 rfl) ?_
    refine lv_iconst (v := 1) hx hb dX5_brim_10 (by decide) ?_
    refine lv_bipush (v := 60) hx hb dX5_brim_11 (by decide) ?_
    refine goI0 (va_runS (As := [.int v, .int 1, .int 60]) (rest := []) ⟨hx, hb, hml, hown, hts⟩ (CtI.use (c_X5_in l G ca v 1 60) H.size) (va_cwS 3 hts gX5_brim_X5_in rfl rfl rfl (by decide +kernel) ⟨Nat.le_of_ble_eq_true rfl, Nat.le_of_ble_eq_true rfl⟩) (pcW_S hev P_nil (D_nil (A := A))) rfl rfl hl.1 rfl (lv_room (Nat.le_of_ble_eq_true rfl)) dX5_brim_13 ⟨Nat.zero_le _, Nat.zero_le _⟩) hP hS hA (fun H locs hP hS => ?_)
    refine lv_eqi (y := 0) (by exact inC_0 hv) ?_
    refine lv_if_ne (tgt := 22) hx hb dX5_brim_16 (by decide) (fun c_2 => ?_) (fun c_2 => ?_)
    · skip
      exact absurd (by decide) c_2
    · skip
      refine lv_bipush (v := (-2)) hx hb dX5_brim_19 (by decide) ?_
      exact hret _ _ _ _ hP hS dX5_brim_21
  · skip
    exact absurd c_1 (by decide)
set_option maxHeartbeats 4000000 in
set_option maxRecDepth 100000 in
theorem c_X5_brim_ok (l : Launch) (G : va_G) (ca : Nat → ClassId) (h : Nat) (a : Nat → Nat) (M : MM) (p : Nat) (v : Int32) (k6 : Nat) (n820 : Nat) (hst : m_states M = nI k6) (hk6 : k6 ≤ 6) (h820 : n820 = 820) (hp1 : p < 12) (hv1 : ¬ v < 1) (hv2 : v ≤ 60) : CtI l yX5_brim wsX5_brim ({ frames := 2, cells := 0, slots := 0, locals := 46 }) [.ref h, .int (nI p), .int v] G ca (moT ca h a M) (moT ca h a (zDn (upd (m_z M) (8 + 5 * p + 0) v) p v, recP (m_past M) (m_z M) k6 n820, nI (recN k6), m_slots M, m_isSaved M, m_pad M, m_typed M, m_spot M, m_told M, m_toldMany M)) (m_z M (8 + 5 * p + 0)) := by
  refine CtI.ofW (cc := cX5_brim) (maxL := 4) (rt := .int) (by decide) rfl (Nat.le_of_ble_eq_true rfl) rfl ?_
  intro pr en s m be me c A ls Q H hx hb hml hts hown hev hP hD hA hS hl hret
  have hown : s.vm.findClass RX5 = some m.cls := hown
  have hl : lv_has ls 4 [(0, .ref h), (1, .int (nI p)), (2, .int v)] := hl
  have in_wsX50 : ∀ w ∈ wsX50, w ∈ wsX5_brim := fun _ h => List.mem_cons_of_mem _ (List.mem_append_right _ h)
  refine lv_iload_n hx hb dX5_brim_0 rfl (lv_at hl 1 rfl) ?_
  refine goI0 (va_runS (As := [.int (nI p)]) (rest := []) ⟨hx, hb, hml, hown, hts⟩ (CtI.use (c_X5_isPuddle l G ca (nI p)) H.size) (va_cwS 1 hts gX5_brim_X5_isPuddle rfl rfl rfl (by decide +kernel) ⟨Nat.le_of_ble_eq_true rfl, Nat.le_of_ble_eq_true rfl⟩) (pcW_S hev P_nil (D_nil (A := A))) rfl rfl hl.1 rfl (lv_room (Nat.le_of_ble_eq_true rfl)) dX5_brim_1 ⟨Nat.zero_le _, Nat.zero_le _⟩) hP hS hA (fun H locs hP hS => ?_)
  refine lv_eqi (y := 1) (by exact inC_p (by omega)) ?_
  refine lv_if_ne (tgt := 9) hx hb dX5_brim_4 (by decide) (fun c_1 => ?_) (fun c_1 => ?_)
  · skip
    refine lv_iload_n hx hb dX5_brim_9 rfl (lv_at hl 2 rfl) ?_
    refine lv_iconst (v := 1) hx hb dX5_brim_10 (by decide) ?_
    refine lv_bipush (v := 60) hx hb dX5_brim_11 (by decide) ?_
    refine goI0 (va_runS (As := [.int v, .int 1, .int 60]) (rest := []) ⟨hx, hb, hml, hown, hts⟩ (CtI.use (c_X5_in l G ca v 1 60) H.size) (va_cwS 3 hts gX5_brim_X5_in rfl rfl rfl (by decide +kernel) ⟨Nat.le_of_ble_eq_true rfl, Nat.le_of_ble_eq_true rfl⟩) (pcW_S hev P_nil (D_nil (A := A))) rfl rfl hl.1 rfl (lv_room (Nat.le_of_ble_eq_true rfl)) dX5_brim_13 ⟨Nat.zero_le _, Nat.zero_le _⟩) hP hS hA (fun H locs hP hS => ?_)
    refine lv_eqi (y := 1) (by exact inC_1 hv1 hv2) ?_
    refine lv_if_ne (tgt := 22) hx hb dX5_brim_16 (by decide) (fun c_2 => ?_) (fun c_2 => ?_)
    · skip
      refine lv_aload_n hx hb dX5_brim_22 rfl (lv_at hl 0 rfl) ?_
      refine goVw (va_runV (As := []) (rest := []) ⟨hx, hb, hml, hown, hts⟩ (CtV.use (c_X5_record l G ca h a M k6 n820 hst hk6 h820) H.size) (cwV 0 hts gX5_brim_X5_record rfl rfl rfl (by decide +kernel) ⟨Nat.le_of_ble_eq_true rfl, Nat.le_of_ble_eq_true rfl⟩) (pcW_V hev hP hD (q0 := 0) rfl rfl rfl) rfl rfl hl.1 rfl (lv_room (Nat.le_of_ble_eq_true rfl)) dX5_brim_23 ⟨Nat.zero_le _, Nat.zero_le _⟩) hD hS hA moF (fun H locs hP hD hS => ?_)
      refine lv_aload_n hx hb dX5_brim_26 rfl (lv_at hl 0 rfl) ?_
      refine lv_iload_n hx hb dX5_brim_27 rfl (lv_at hl 1 rfl) ?_
      refine lv_iconst (v := nI 0) hx hb dX5_brim_28 (by decide) ?_
      refine goIw (va_runV (As := [.int (nI p), .int (nI 0)]) (rest := []) ⟨hx, hb, hml, hown, hts⟩ (CtI.use (c_X5_of l G ca h a (m_z M, recP ((m_past M)) ((m_z M)) k6 n820, nI (recN k6), m_slots M, m_isSaved M, m_pad M, m_typed M, m_spot M, m_told M, m_toldMany M) p 0 (by omega) (by omega)) H.size) (cwV 2 hts gX5_brim_X5_of rfl rfl rfl (by decide +kernel) ⟨Nat.le_of_ble_eq_true rfl, Nat.le_of_ble_eq_true rfl⟩) (pcW_V hev hP hD (q0 := 0) rfl rfl rfl) rfl rfl hl.1 rfl (lv_room (Nat.le_of_ble_eq_true rfl)) dX5_brim_29 ⟨Nat.zero_le _, Nat.zero_le _⟩) hD hS hA moF (fun H locs hP hD hS => ?_)
      refine lv_eqi (y := (m_z M) (8 + 5 * p + 0)) rfl ?_
      refine lv_istore_n (lv' := [(3, .int ((m_z M) (8 + 5 * p + 0))), (0, .ref h), (1, .int (nI p)), (2, .int v)]) hx hb dX5_brim_32 rfl hl (by decide) rfl (fun ls hl => ?_)
      refine lv_aload_n hx hb dX5_brim_33 rfl (lv_at hl 1 rfl) ?_
      refine lv_iload_n hx hb dX5_brim_34 rfl (lv_at hl 2 rfl) ?_
      refine lv_iconst (v := nI 0) hx hb dX5_brim_35 (by decide) ?_
      refine lv_iload_n hx hb dX5_brim_36 rfl (lv_at hl 3 rfl) ?_
      refine goVw (va_runV (As := [.int (nI p), .int (nI 0), .int v]) (rest := []) ⟨hx, hb, hml, hown, hts⟩ (CtV.use (c_X5_lay l G ca h a (m_z M, recP ((m_past M)) ((m_z M)) k6 n820, nI (recN k6), m_slots M, m_isSaved M, m_pad M, m_typed M, m_spot M, m_told M, m_toldMany M) p 0 v (by omega) (by omega)) H.size) (cwV 3 hts gX5_brim_X5_lay rfl rfl rfl (by decide +kernel) ⟨Nat.le_of_ble_eq_true rfl, Nat.le_of_ble_eq_true rfl⟩) (pcW_V hev hP hD (q0 := 0) rfl rfl rfl) rfl rfl hl.1 rfl (lv_room (Nat.le_of_ble_eq_true rfl)) dX5_brim_37 ⟨Nat.zero_le _, Nat.zero_le _⟩) hD hS hA moF (fun H locs hP hD hS => ?_)
      refine lv_aload_n hx hb dX5_brim_40 rfl (lv_at hl 1 rfl) ?_
      refine lv_iload_n hx hb dX5_brim_41 rfl (lv_at hl 2 rfl) ?_
      refine lv_iload_n hx hb dX5_brim_42 rfl (lv_at hl 3 rfl) ?_
      refine goVw (va_runV (As := [.int (nI p), .int v]) (rest := []) ⟨hx, hb, hml, hown, hts⟩ (CtV.use (c_X5_drainAbove l G ca h a (upd ((m_z M)) (8 + 5 * p + 0) v, recP ((m_past M)) ((m_z M)) k6 n820, nI (recN k6), m_slots M, m_isSaved M, m_pad M, m_typed M, m_spot M, m_told M, m_toldMany M) p v (by omega)) H.size) (cwV 2 hts gX5_brim_X5_drainAbove rfl rfl rfl (by decide +kernel) ⟨Nat.le_of_ble_eq_true rfl, Nat.le_of_ble_eq_true rfl⟩) (pcW_V hev hP hD (q0 := 0) rfl rfl rfl) rfl rfl hl.1 rfl (lv_room (Nat.le_of_ble_eq_true rfl)) dX5_brim_43 ⟨Nat.zero_le _, Nat.zero_le _⟩) hD hS hA moF (fun H locs hP hD hS => ?_)
      refine lv_iload_n hx hb dX5_brim_46 rfl (lv_at hl 0 rfl) ?_
      refine lv_eqi (y := m_z M (8 + 5 * p + 0)) rfl ?_
      exact hret _ _ _ _ hP hS dX5_brim_47
    · skip
      exact absurd c_2 (by decide)
  · skip
    exact absurd c_1 (by decide)
set_option maxHeartbeats 4000000 in
set_option maxRecDepth 100000 in
theorem c_X5_drain_out (l : Launch) (G : va_G) (ca : Nat → ClassId) (h : Nat) (a : Nat → Nat) (M : MM) (x : Int32) (hx0 : x < 0 ∨ nI 12 ≤ x) : CtI l yX5_drain wsX5_drain ({ frames := 2, cells := 0, slots := 0, locals := 42 }) [.ref h, .int x] G ca (moT ca h a M) (moT ca h a M) (-1) := by
  refine CtI.ofW (cc := cX5_drain) (maxL := 3) (rt := .int) (by decide) rfl (Nat.le_of_ble_eq_true rfl) rfl ?_
  intro pr en s m be me c A ls Q H hx hb hml hts hown hev hP hD hA hS hl hret
  have hown : s.vm.findClass RX5 = some m.cls := hown
  have hl : lv_has ls 3 [(0, .ref h), (1, .int x)] := hl
  have in_wsX50 : ∀ w ∈ wsX50, w ∈ wsX5_drain := fun _ h => List.mem_cons_of_mem _ (List.mem_append_right _ h)
  refine lv_iload_n hx hb dX5_drain_0 rfl (lv_at hl 1 rfl) ?_
  refine goI0 (va_runS (As := [.int x]) (rest := []) ⟨hx, hb, hml, hown, hts⟩ (CtI.use (c_X5_isPuddle l G ca x) H.size) (va_cwS 1 hts gX5_drain_X5_isPuddle rfl rfl rfl (by decide +kernel) ⟨Nat.le_of_ble_eq_true rfl, Nat.le_of_ble_eq_true rfl⟩) (pcW_S hev P_nil (D_nil (A := A))) rfl rfl hl.1 rfl (lv_room (Nat.le_of_ble_eq_true rfl)) dX5_drain_1 ⟨Nat.zero_le _, Nat.zero_le _⟩) hP hS hA (fun H locs hP hS => ?_)
  refine lv_eqi (y := 0) (by exact inC_po hx0) ?_
  refine lv_if_ne (tgt := 9) hx hb dX5_drain_4 (by decide) (fun c_1 => ?_) (fun c_1 => ?_)
  · skip
    exact absurd (by decide) c_1
  · skip
    refine lv_iconst (v := (-1)) hx hb dX5_drain_7 (by decide) ?_
    exact hret _ _ _ _ hP hS dX5_drain_8
set_option maxHeartbeats 4000000 in
set_option maxRecDepth 100000 in
theorem c_X5_drain_ducks (l : Launch) (G : va_G) (ca : Nat → ClassId) (h : Nat) (a : Nat → Nat) (M : MM) (p : Nat) (hp1 : p < 12) (hd : ¬ zDk (m_z M) p = 0) : CtI l yX5_drain wsX5_drain ({ frames := 2, cells := 0, slots := 0, locals := 43 }) [.ref h, .int (nI p)] G ca (moT ca h a M) (moT ca h a M) (-5) := by
  refine CtI.ofW (cc := cX5_drain) (maxL := 3) (rt := .int) (by decide) rfl (Nat.le_of_ble_eq_true rfl) rfl ?_
  intro pr en s m be me c A ls Q H hx hb hml hts hown hev hP hD hA hS hl hret
  have hown : s.vm.findClass RX5 = some m.cls := hown
  have hl : lv_has ls 3 [(0, .ref h), (1, .int (nI p))] := hl
  have in_wsX50 : ∀ w ∈ wsX50, w ∈ wsX5_drain := fun _ h => List.mem_cons_of_mem _ (List.mem_append_right _ h)
  refine lv_iload_n hx hb dX5_drain_0 rfl (lv_at hl 1 rfl) ?_
  refine goI0 (va_runS (As := [.int (nI p)]) (rest := []) ⟨hx, hb, hml, hown, hts⟩ (CtI.use (c_X5_isPuddle l G ca (nI p)) H.size) (va_cwS 1 hts gX5_drain_X5_isPuddle rfl rfl rfl (by decide +kernel) ⟨Nat.le_of_ble_eq_true rfl, Nat.le_of_ble_eq_true rfl⟩) (pcW_S hev P_nil (D_nil (A := A))) rfl rfl hl.1 rfl (lv_room (Nat.le_of_ble_eq_true rfl)) dX5_drain_1 ⟨Nat.zero_le _, Nat.zero_le _⟩) hP hS hA (fun H locs hP hS => ?_)
  refine lv_eqi (y := 1) (by exact inC_p (by omega)) ?_
  refine lv_if_ne (tgt := 9) hx hb dX5_drain_4 (by decide) (fun c_1 => ?_) (fun c_1 => ?_)
  · skip
    refine lv_aload_n hx hb dX5_drain_9 rfl (lv_at hl 0 rfl) ?_
    refine lv_iload_n hx hb dX5_drain_10 rfl (lv_at hl 1 rfl) ?_
    refine goIw (va_runV (As := [.int (nI p)]) (rest := []) ⟨hx, hb, hml, hown, hts⟩ (CtI.use (c_X5_hasDucks l G ca h a M p (by omega)) H.size) (cwV 1 hts gX5_drain_X5_hasDucks rfl rfl rfl (by decide +kernel) ⟨Nat.le_of_ble_eq_true rfl, Nat.le_of_ble_eq_true rfl⟩) (pcW_V hev hP hD (q0 := 0) rfl rfl rfl) rfl rfl hl.1 rfl (lv_room (Nat.le_of_ble_eq_true rfl)) dX5_drain_11 ⟨Nat.zero_le _, Nat.zero_le _⟩) hD hS hA moF (fun H locs hP hD hS => ?_)
    refine lv_if_eq (tgt := 20) hx hb dX5_drain_14 (by decide) (fun c_2 => ?_) (fun c_2 => ?_)
    · skip
      exact absurd c_2 hd
    · skip
      refine lv_bipush (v := (-5)) hx hb dX5_drain_17 (by decide) ?_
      exact hret _ _ _ _ hP hS dX5_drain_19
  · skip
    exact absurd c_1 (by decide)
set_option maxHeartbeats 4000000 in
set_option maxRecDepth 100000 in
theorem c_X5_drain_ok (l : Launch) (G : va_G) (ca : Nat → ClassId) (h : Nat) (a : Nat → Nat) (M : MM) (p : Nat) (k6 : Nat) (n820 : Nat) (hst : m_states M = nI k6) (hk6 : k6 ≤ 6) (h820 : n820 = 820) (hp1 : p < 12) (hd : zDk (m_z M) p = 0) : CtI l yX5_drain wsX5_drain ({ frames := 2, cells := 0, slots := 0, locals := 46 }) [.ref h, .int (nI p)] G ca (moT ca h a M) (moT ca h a (upd (zDn (m_z M) p 0) (8 + 5 * p + 2) 0, recP (m_past M) (m_z M) k6 n820, nI (recN k6), m_slots M, m_isSaved M, m_pad M, m_typed M, m_spot M, m_told M, m_toldMany M)) (m_z M (8 + 5 * p + 1)) := by
  refine CtI.ofW (cc := cX5_drain) (maxL := 3) (rt := .int) (by decide) rfl (Nat.le_of_ble_eq_true rfl) rfl ?_
  intro pr en s m be me c A ls Q H hx hb hml hts hown hev hP hD hA hS hl hret
  have hown : s.vm.findClass RX5 = some m.cls := hown
  have hl : lv_has ls 3 [(0, .ref h), (1, .int (nI p))] := hl
  have in_wsX50 : ∀ w ∈ wsX50, w ∈ wsX5_drain := fun _ h => List.mem_cons_of_mem _ (List.mem_append_right _ h)
  refine lv_iload_n hx hb dX5_drain_0 rfl (lv_at hl 1 rfl) ?_
  refine goI0 (va_runS (As := [.int (nI p)]) (rest := []) ⟨hx, hb, hml, hown, hts⟩ (CtI.use (c_X5_isPuddle l G ca (nI p)) H.size) (va_cwS 1 hts gX5_drain_X5_isPuddle rfl rfl rfl (by decide +kernel) ⟨Nat.le_of_ble_eq_true rfl, Nat.le_of_ble_eq_true rfl⟩) (pcW_S hev P_nil (D_nil (A := A))) rfl rfl hl.1 rfl (lv_room (Nat.le_of_ble_eq_true rfl)) dX5_drain_1 ⟨Nat.zero_le _, Nat.zero_le _⟩) hP hS hA (fun H locs hP hS => ?_)
  refine lv_eqi (y := 1) (by exact inC_p (by omega)) ?_
  refine lv_if_ne (tgt := 9) hx hb dX5_drain_4 (by decide) (fun c_1 => ?_) (fun c_1 => ?_)
  · skip
    refine lv_aload_n hx hb dX5_drain_9 rfl (lv_at hl 0 rfl) ?_
    refine lv_iload_n hx hb dX5_drain_10 rfl (lv_at hl 1 rfl) ?_
    refine goIw (va_runV (As := [.int (nI p)]) (rest := []) ⟨hx, hb, hml, hown, hts⟩ (CtI.use (c_X5_hasDucks l G ca h a M p (by omega)) H.size) (cwV 1 hts gX5_drain_X5_hasDucks rfl rfl rfl (by decide +kernel) ⟨Nat.le_of_ble_eq_true rfl, Nat.le_of_ble_eq_true rfl⟩) (pcW_V hev hP hD (q0 := 0) rfl rfl rfl) rfl rfl hl.1 rfl (lv_room (Nat.le_of_ble_eq_true rfl)) dX5_drain_11 ⟨Nat.zero_le _, Nat.zero_le _⟩) hD hS hA moF (fun H locs hP hD hS => ?_)
    refine lv_if_eq (tgt := 20) hx hb dX5_drain_14 (by decide) (fun c_2 => ?_) (fun c_2 => ?_)
    · skip
      refine lv_aload_n hx hb dX5_drain_20 rfl (lv_at hl 0 rfl) ?_
      refine goVw (va_runV (As := []) (rest := []) ⟨hx, hb, hml, hown, hts⟩ (CtV.use (c_X5_record l G ca h a M k6 n820 hst hk6 h820) H.size) (cwV 0 hts gX5_drain_X5_record rfl rfl rfl (by decide +kernel) ⟨Nat.le_of_ble_eq_true rfl, Nat.le_of_ble_eq_true rfl⟩) (pcW_V hev hP hD (q0 := 0) rfl rfl rfl) rfl rfl hl.1 rfl (lv_room (Nat.le_of_ble_eq_true rfl)) dX5_drain_21 ⟨Nat.zero_le _, Nat.zero_le _⟩) hD hS hA moF (fun H locs hP hD hS => ?_)
      refine lv_aload_n hx hb dX5_drain_24 rfl (lv_at hl 0 rfl) ?_
      refine lv_iload_n hx hb dX5_drain_25 rfl (lv_at hl 1 rfl) ?_
      refine lv_iconst (v := nI 1) hx hb dX5_drain_26 (by decide) ?_
      refine goIw (va_runV (As := [.int (nI p), .int (nI 1)]) (rest := []) ⟨hx, hb, hml, hown, hts⟩ (CtI.use (c_X5_of l G ca h a (m_z M, recP ((m_past M)) ((m_z M)) k6 n820, nI (recN k6), m_slots M, m_isSaved M, m_pad M, m_typed M, m_spot M, m_told M, m_toldMany M) p 1 (by omega) (by omega)) H.size) (cwV 2 hts gX5_drain_X5_of rfl rfl rfl (by decide +kernel) ⟨Nat.le_of_ble_eq_true rfl, Nat.le_of_ble_eq_true rfl⟩) (pcW_V hev hP hD (q0 := 0) rfl rfl rfl) rfl rfl hl.1 rfl (lv_room (Nat.le_of_ble_eq_true rfl)) dX5_drain_27 ⟨Nat.zero_le _, Nat.zero_le _⟩) hD hS hA moF (fun H locs hP hD hS => ?_)
      refine lv_eqi (y := (m_z M) (8 + 5 * p + 1)) rfl ?_
      refine lv_istore_n (lv' := [(2, .int ((m_z M) (8 + 5 * p + 1))), (0, .ref h), (1, .int (nI p))]) hx hb dX5_drain_30 rfl hl (by decide) rfl (fun ls hl => ?_)
      refine lv_aload_n hx hb dX5_drain_31 rfl (lv_at hl 1 rfl) ?_
      refine lv_iload_n hx hb dX5_drain_32 rfl (lv_at hl 2 rfl) ?_
      refine lv_iconst (v := 0) hx hb dX5_drain_33 (by decide) ?_
      refine goVw (va_runV (As := [.int (nI p), .int 0]) (rest := []) ⟨hx, hb, hml, hown, hts⟩ (CtV.use (c_X5_drainAbove l G ca h a (m_z M, recP ((m_past M)) ((m_z M)) k6 n820, nI (recN k6), m_slots M, m_isSaved M, m_pad M, m_typed M, m_spot M, m_told M, m_toldMany M) p 0 (by omega)) H.size) (cwV 2 hts gX5_drain_X5_drainAbove rfl rfl rfl (by decide +kernel) ⟨Nat.le_of_ble_eq_true rfl, Nat.le_of_ble_eq_true rfl⟩) (pcW_V hev hP hD (q0 := 0) rfl rfl rfl) rfl rfl hl.1 rfl (lv_room (Nat.le_of_ble_eq_true rfl)) dX5_drain_34 ⟨Nat.zero_le _, Nat.zero_le _⟩) hD hS hA moF (fun H locs hP hD hS => ?_)
      refine lv_aload_n hx hb dX5_drain_37 rfl (lv_at hl 1 rfl) ?_
      refine lv_iload_n hx hb dX5_drain_38 rfl (lv_at hl 2 rfl) ?_
      refine lv_iconst (v := nI 2) hx hb dX5_drain_39 (by decide) ?_
      refine lv_iconst (v := 0) hx hb dX5_drain_40 (by decide) ?_
      refine goVw (va_runV (As := [.int (nI p), .int (nI 2), .int 0]) (rest := []) ⟨hx, hb, hml, hown, hts⟩ (CtV.use (c_X5_lay l G ca h a (zDn ((m_z M)) p 0, recP ((m_past M)) ((m_z M)) k6 n820, nI (recN k6), m_slots M, m_isSaved M, m_pad M, m_typed M, m_spot M, m_told M, m_toldMany M) p 2 0 (by omega) (by omega)) H.size) (cwV 3 hts gX5_drain_X5_lay rfl rfl rfl (by decide +kernel) ⟨Nat.le_of_ble_eq_true rfl, Nat.le_of_ble_eq_true rfl⟩) (pcW_V hev hP hD (q0 := 0) rfl rfl rfl) rfl rfl hl.1 rfl (lv_room (Nat.le_of_ble_eq_true rfl)) dX5_drain_41 ⟨Nat.zero_le _, Nat.zero_le _⟩) hD hS hA moF (fun H locs hP hD hS => ?_)
      refine lv_iload_n hx hb dX5_drain_44 rfl (lv_at hl 0 rfl) ?_
      refine lv_eqi (y := m_z M (8 + 5 * p + 1)) rfl ?_
      exact hret _ _ _ _ hP hS dX5_drain_45
    · skip
      exact absurd hd c_2
  · skip
    exact absurd c_1 (by decide)
set_option maxHeartbeats 4000000 in
set_option maxRecDepth 100000 in
theorem c_X5_shoes_out (l : Launch) (G : va_G) (ca : Nat → ClassId) (h : Nat) (a : Nat → Nat) (M : MM) (x : Int32) (v : Int32) (hx0 : x < 0 ∨ nI 6 ≤ x) : CtI l yX5_shoes wsX5_shoes ({ frames := 2, cells := 0, slots := 0, locals := 42 }) [.ref h, .int x, .int v] G ca (moT ca h a M) (moT ca h a M) (-1) := by
  refine CtI.ofW (cc := cX5_shoes) (maxL := 4) (rt := .int) (by decide) rfl (Nat.le_of_ble_eq_true rfl) rfl ?_
  intro pr en s m be me c A ls Q H hx hb hml hts hown hev hP hD hA hS hl hret
  have hown : s.vm.findClass RX5 = some m.cls := hown
  have hl : lv_has ls 4 [(0, .ref h), (1, .int x), (2, .int v)] := hl
  have in_wsX50 : ∀ w ∈ wsX50, w ∈ wsX5_shoes := fun _ h => List.mem_cons_of_mem _ (List.mem_append_right _ h)
  refine lv_iload_n hx hb dX5_shoes_0 rfl (lv_at hl 1 rfl) ?_
  refine goI0 (va_runS (As := [.int x]) (rest := []) ⟨hx, hb, hml, hown, hts⟩ (CtI.use (c_X5_isWalker l G ca x) H.size) (va_cwS 1 hts gX5_shoes_X5_isWalker rfl rfl rfl (by decide +kernel) ⟨Nat.le_of_ble_eq_true rfl, Nat.le_of_ble_eq_true rfl⟩) (pcW_S hev P_nil (D_nil (A := A))) rfl rfl hl.1 rfl (lv_room (Nat.le_of_ble_eq_true rfl)) dX5_shoes_1 ⟨Nat.zero_le _, Nat.zero_le _⟩) hP hS hA (fun H locs hP hS => ?_)
  refine lv_eqi (y := 0) (by exact inC_wo hx0) ?_
  refine lv_if_ne (tgt := 9) hx hb dX5_shoes_4 (by decide) (fun c_1 => ?_) (fun c_1 => ?_)
  · skip
    exact absurd (by decide) c_1
  · skip
    refine lv_iconst (v := (-1)) hx hb dX5_shoes_7 (by decide) ?_
    exact hret _ _ _ _ hP hS dX5_shoes_8
set_option maxHeartbeats 4000000 in
set_option maxRecDepth 100000 in
theorem c_X5_shoes_bad (l : Launch) (G : va_G) (ca : Nat → ClassId) (h : Nat) (a : Nat → Nat) (M : MM) (w : Nat) (v : Int32) (hw : w < 6) (hv : v < 0 ∨ ¬ v ≤ 3) : CtI l yX5_shoes wsX5_shoes ({ frames := 2, cells := 0, slots := 0, locals := 42 }) [.ref h, .int (nI w), .int v] G ca (moT ca h a M) (moT ca h a M) (-2) := by
  refine CtI.ofW (cc := cX5_shoes) (maxL := 4) (rt := .int) (by decide) rfl (Nat.le_of_ble_eq_true rfl) rfl ?_
  intro pr en s m be me c A ls Q H hx hb hml hts hown hev hP hD hA hS hl hret
  have hown : s.vm.findClass RX5 = some m.cls := hown
  have hl : lv_has ls 4 [(0, .ref h), (1, .int (nI w)), (2, .int v)] := hl
  have in_wsX50 : ∀ w ∈ wsX50, w ∈ wsX5_shoes := fun _ h => List.mem_cons_of_mem _ (List.mem_append_right _ h)
  refine lv_iload_n hx hb dX5_shoes_0 rfl (lv_at hl 1 rfl) ?_
  refine goI0 (va_runS (As := [.int (nI w)]) (rest := []) ⟨hx, hb, hml, hown, hts⟩ (CtI.use (c_X5_isWalker l G ca (nI w)) H.size) (va_cwS 1 hts gX5_shoes_X5_isWalker rfl rfl rfl (by decide +kernel) ⟨Nat.le_of_ble_eq_true rfl, Nat.le_of_ble_eq_true rfl⟩) (pcW_S hev P_nil (D_nil (A := A))) rfl rfl hl.1 rfl (lv_room (Nat.le_of_ble_eq_true rfl)) dX5_shoes_1 ⟨Nat.zero_le _, Nat.zero_le _⟩) hP hS hA (fun H locs hP hS => ?_)
  refine lv_eqi (y := 1) (by exact inC_w (by omega)) ?_
  refine lv_if_ne (tgt := 9) hx hb dX5_shoes_4 (by decide) (fun c_1 => ?_) (fun c_1 => ?_)
  · skip
    refine lv_iload_n hx hb dX5_shoes_9 rfl (lv_at hl 2 rfl) ?_
    refine lv_iconst (v := 0) hx hb dX5_shoes_10 (by decide) ?_
    refine lv_iconst (v := 3) hx hb dX5_shoes_11 (by decide) ?_
    refine goI0 (va_runS (As := [.int v, .int 0, .int 3]) (rest := []) ⟨hx, hb, hml, hown, hts⟩ (CtI.use (c_X5_in l G ca v 0 3) H.size) (va_cwS 3 hts gX5_shoes_X5_in rfl rfl rfl (by decide +kernel) ⟨Nat.le_of_ble_eq_true rfl, Nat.le_of_ble_eq_true rfl⟩) (pcW_S hev P_nil (D_nil (A := A))) rfl rfl hl.1 rfl (lv_room (Nat.le_of_ble_eq_true rfl)) dX5_shoes_12 ⟨Nat.zero_le _, Nat.zero_le _⟩) hP hS hA (fun H locs hP hS => ?_)
    refine lv_eqi (y := 0) (by exact inC_0 hv) ?_
    refine lv_if_ne (tgt := 21) hx hb dX5_shoes_15 (by decide) (fun c_2 => ?_) (fun c_2 => ?_)
    · skip
      exact absurd (by decide) c_2
    · skip
      refine lv_bipush (v := (-2)) hx hb dX5_shoes_18 (by decide) ?_
      exact hret _ _ _ _ hP hS dX5_shoes_20
  · skip
    exact absurd c_1 (by decide)
set_option maxHeartbeats 4000000 in
set_option maxRecDepth 100000 in
theorem c_X5_shoes_ok (l : Launch) (G : va_G) (ca : Nat → ClassId) (h : Nat) (a : Nat → Nat) (M : MM) (w : Nat) (v : Int32) (k6 : Nat) (n820 : Nat) (hst : m_states M = nI k6) (hk6 : k6 ≤ 6) (h820 : n820 = 820) (hw : w < 6) (hv1 : ¬ v < 0) (hv2 : v ≤ 3) : CtI l yX5_shoes wsX5_shoes ({ frames := 2, cells := 0, slots := 0, locals := 45 }) [.ref h, .int (nI w), .int v] G ca (moT ca h a M) (moT ca h a (upd (m_z M) (68 + 4 * w + 0) v, recP (m_past M) (m_z M) k6 n820, nI (recN k6), m_slots M, m_isSaved M, m_pad M, m_typed M, m_spot M, m_told M, m_toldMany M)) (m_z M (68 + 4 * w + 0)) := by
  refine CtI.ofW (cc := cX5_shoes) (maxL := 4) (rt := .int) (by decide) rfl (Nat.le_of_ble_eq_true rfl) rfl ?_
  intro pr en s m be me c A ls Q H hx hb hml hts hown hev hP hD hA hS hl hret
  have hown : s.vm.findClass RX5 = some m.cls := hown
  have hl : lv_has ls 4 [(0, .ref h), (1, .int (nI w)), (2, .int v)] := hl
  have in_wsX50 : ∀ w ∈ wsX50, w ∈ wsX5_shoes := fun _ h => List.mem_cons_of_mem _ (List.mem_append_right _ h)
  refine lv_iload_n hx hb dX5_shoes_0 rfl (lv_at hl 1 rfl) ?_
  refine goI0 (va_runS (As := [.int (nI w)]) (rest := []) ⟨hx, hb, hml, hown, hts⟩ (CtI.use (c_X5_isWalker l G ca (nI w)) H.size) (va_cwS 1 hts gX5_shoes_X5_isWalker rfl rfl rfl (by decide +kernel) ⟨Nat.le_of_ble_eq_true rfl, Nat.le_of_ble_eq_true rfl⟩) (pcW_S hev P_nil (D_nil (A := A))) rfl rfl hl.1 rfl (lv_room (Nat.le_of_ble_eq_true rfl)) dX5_shoes_1 ⟨Nat.zero_le _, Nat.zero_le _⟩) hP hS hA (fun H locs hP hS => ?_)
  refine lv_eqi (y := 1) (by exact inC_w (by omega)) ?_
  refine lv_if_ne (tgt := 9) hx hb dX5_shoes_4 (by decide) (fun c_1 => ?_) (fun c_1 => ?_)
  · skip
    refine lv_iload_n hx hb dX5_shoes_9 rfl (lv_at hl 2 rfl) ?_
    refine lv_iconst (v := 0) hx hb dX5_shoes_10 (by decide) ?_
    refine lv_iconst (v := 3) hx hb dX5_shoes_11 (by decide) ?_
    refine goI0 (va_runS (As := [.int v, .int 0, .int 3]) (rest := []) ⟨hx, hb, hml, hown, hts⟩ (CtI.use (c_X5_in l G ca v 0 3) H.size) (va_cwS 3 hts gX5_shoes_X5_in rfl rfl rfl (by decide +kernel) ⟨Nat.le_of_ble_eq_true rfl, Nat.le_of_ble_eq_true rfl⟩) (pcW_S hev P_nil (D_nil (A := A))) rfl rfl hl.1 rfl (lv_room (Nat.le_of_ble_eq_true rfl)) dX5_shoes_12 ⟨Nat.zero_le _, Nat.zero_le _⟩) hP hS hA (fun H locs hP hS => ?_)
    refine lv_eqi (y := 1) (by exact inC_1 hv1 hv2) ?_
    refine lv_if_ne (tgt := 21) hx hb dX5_shoes_15 (by decide) (fun c_2 => ?_) (fun c_2 => ?_)
    · skip
      refine lv_aload_n hx hb dX5_shoes_21 rfl (lv_at hl 0 rfl) ?_
      refine goVw (va_runV (As := []) (rest := []) ⟨hx, hb, hml, hown, hts⟩ (CtV.use (c_X5_record l G ca h a M k6 n820 hst hk6 h820) H.size) (cwV 0 hts gX5_shoes_X5_record rfl rfl rfl (by decide +kernel) ⟨Nat.le_of_ble_eq_true rfl, Nat.le_of_ble_eq_true rfl⟩) (pcW_V hev hP hD (q0 := 0) rfl rfl rfl) rfl rfl hl.1 rfl (lv_room (Nat.le_of_ble_eq_true rfl)) dX5_shoes_22 ⟨Nat.zero_le _, Nat.zero_le _⟩) hD hS hA moF (fun H locs hP hD hS => ?_)
      refine lv_aload_n hx hb dX5_shoes_25 rfl (lv_at hl 0 rfl) ?_
      refine lv_iload_n hx hb dX5_shoes_26 rfl (lv_at hl 1 rfl) ?_
      refine lv_iconst (v := nI 0) hx hb dX5_shoes_27 (by decide) ?_
      refine goIw (va_runV (As := [.int (nI w), .int (nI 0)]) (rest := []) ⟨hx, hb, hml, hown, hts⟩ (CtI.use (c_X5_ofWalker l G ca h a (m_z M, recP ((m_past M)) ((m_z M)) k6 n820, nI (recN k6), m_slots M, m_isSaved M, m_pad M, m_typed M, m_spot M, m_told M, m_toldMany M) w 0 (by omega) (by omega)) H.size) (cwV 2 hts gX5_shoes_X5_ofWalker rfl rfl rfl (by decide +kernel) ⟨Nat.le_of_ble_eq_true rfl, Nat.le_of_ble_eq_true rfl⟩) (pcW_V hev hP hD (q0 := 0) rfl rfl rfl) rfl rfl hl.1 rfl (lv_room (Nat.le_of_ble_eq_true rfl)) dX5_shoes_28 ⟨Nat.zero_le _, Nat.zero_le _⟩) hD hS hA moF (fun H locs hP hD hS => ?_)
      refine lv_eqi (y := (m_z M) (68 + 4 * w + 0)) rfl ?_
      refine lv_istore_n (lv' := [(3, .int ((m_z M) (68 + 4 * w + 0))), (0, .ref h), (1, .int (nI w)), (2, .int v)]) hx hb dX5_shoes_31 rfl hl (by decide) rfl (fun ls hl => ?_)
      refine lv_aload_n hx hb dX5_shoes_32 rfl (lv_at hl 1 rfl) ?_
      refine lv_iload_n hx hb dX5_shoes_33 rfl (lv_at hl 2 rfl) ?_
      refine lv_iconst (v := nI 0) hx hb dX5_shoes_34 (by decide) ?_
      refine lv_iload_n hx hb dX5_shoes_35 rfl (lv_at hl 3 rfl) ?_
      refine goVw (va_runV (As := [.int (nI w), .int (nI 0), .int v]) (rest := []) ⟨hx, hb, hml, hown, hts⟩ (CtV.use (c_X5_layWalker l G ca h a (m_z M, recP ((m_past M)) ((m_z M)) k6 n820, nI (recN k6), m_slots M, m_isSaved M, m_pad M, m_typed M, m_spot M, m_told M, m_toldMany M) w 0 v (by omega) (by omega)) H.size) (cwV 3 hts gX5_shoes_X5_layWalker rfl rfl rfl (by decide +kernel) ⟨Nat.le_of_ble_eq_true rfl, Nat.le_of_ble_eq_true rfl⟩) (pcW_V hev hP hD (q0 := 0) rfl rfl rfl) rfl rfl hl.1 rfl (lv_room (Nat.le_of_ble_eq_true rfl)) dX5_shoes_36 ⟨Nat.zero_le _, Nat.zero_le _⟩) hD hS hA moF (fun H locs hP hD hS => ?_)
      refine lv_iload_n hx hb dX5_shoes_39 rfl (lv_at hl 0 rfl) ?_
      refine lv_eqi (y := m_z M (68 + 4 * w + 0)) rfl ?_
      exact hret _ _ _ _ hP hS dX5_shoes_40
    · skip
      exact absurd c_2 (by decide)
  · skip
    exact absurd c_1 (by decide)
set_option maxHeartbeats 4000000 in
set_option maxRecDepth 100000 in
theorem c_X5_permit_outw (l : Launch) (G : va_G) (ca : Nat → ClassId) (h : Nat) (a : Nat → Nat) (M : MM) (x : Int32) (v : Int32) (hx0 : x < 0 ∨ nI 6 ≤ x) : CtI l yX5_permit wsX5_permit ({ frames := 2, cells := 0, slots := 0, locals := 42 }) [.ref h, .int x, .int v] G ca (moT ca h a M) (moT ca h a M) (-1) := by
  refine CtI.ofW (cc := cX5_permit) (maxL := 3) (rt := .int) (by decide) rfl (Nat.le_of_ble_eq_true rfl) rfl ?_
  intro pr en s m be me c A ls Q H hx hb hml hts hown hev hP hD hA hS hl hret
  have hown : s.vm.findClass RX5 = some m.cls := hown
  have hl : lv_has ls 3 [(0, .ref h), (1, .int x), (2, .int v)] := hl
  have in_wsX50 : ∀ w ∈ wsX50, w ∈ wsX5_permit := fun _ h => List.mem_cons_of_mem _ (List.mem_append_right _ h)
  refine lv_iload_n hx hb dX5_permit_0 rfl (lv_at hl 1 rfl) ?_
  refine goI0 (va_runS (As := [.int x]) (rest := []) ⟨hx, hb, hml, hown, hts⟩ (CtI.use (c_X5_isWalker l G ca x) H.size) (va_cwS 1 hts gX5_permit_X5_isWalker rfl rfl rfl (by decide +kernel) ⟨Nat.le_of_ble_eq_true rfl, Nat.le_of_ble_eq_true rfl⟩) (pcW_S hev P_nil (D_nil (A := A))) rfl rfl hl.1 rfl (lv_room (Nat.le_of_ble_eq_true rfl)) dX5_permit_1 ⟨Nat.zero_le _, Nat.zero_le _⟩) hP hS hA (fun H locs hP hS => ?_)
  refine lv_eqi (y := 0) (by exact inC_wo hx0) ?_
  refine lv_if_eq (tgt := 14) hx hb dX5_permit_4 (by decide) (fun c_1 => ?_) (fun c_1 => ?_)
  · skip
    refine lv_iconst (v := (-1)) hx hb dX5_permit_14 (by decide) ?_
    exact hret _ _ _ _ hP hS dX5_permit_15
  · skip
    exact absurd (by decide) c_1
set_option maxHeartbeats 4000000 in
set_option maxRecDepth 100000 in
theorem c_X5_permit_outp (l : Launch) (G : va_G) (ca : Nat → ClassId) (h : Nat) (a : Nat → Nat) (M : MM) (w : Nat) (x : Int32) (hw : w < 6) (hx0 : x < 0 ∨ nI 12 ≤ x) : CtI l yX5_permit wsX5_permit ({ frames := 2, cells := 0, slots := 0, locals := 42 }) [.ref h, .int (nI w), .int x] G ca (moT ca h a M) (moT ca h a M) (-1) := by
  refine CtI.ofW (cc := cX5_permit) (maxL := 3) (rt := .int) (by decide) rfl (Nat.le_of_ble_eq_true rfl) rfl ?_
  intro pr en s m be me c A ls Q H hx hb hml hts hown hev hP hD hA hS hl hret
  have hown : s.vm.findClass RX5 = some m.cls := hown
  have hl : lv_has ls 3 [(0, .ref h), (1, .int (nI w)), (2, .int x)] := hl
  have in_wsX50 : ∀ w ∈ wsX50, w ∈ wsX5_permit := fun _ h => List.mem_cons_of_mem _ (List.mem_append_right _ h)
  refine lv_iload_n hx hb dX5_permit_0 rfl (lv_at hl 1 rfl) ?_
  refine goI0 (va_runS (As := [.int (nI w)]) (rest := []) ⟨hx, hb, hml, hown, hts⟩ (CtI.use (c_X5_isWalker l G ca (nI w)) H.size) (va_cwS 1 hts gX5_permit_X5_isWalker rfl rfl rfl (by decide +kernel) ⟨Nat.le_of_ble_eq_true rfl, Nat.le_of_ble_eq_true rfl⟩) (pcW_S hev P_nil (D_nil (A := A))) rfl rfl hl.1 rfl (lv_room (Nat.le_of_ble_eq_true rfl)) dX5_permit_1 ⟨Nat.zero_le _, Nat.zero_le _⟩) hP hS hA (fun H locs hP hS => ?_)
  refine lv_eqi (y := 1) (by exact inC_w (by omega)) ?_
  refine lv_if_eq (tgt := 14) hx hb dX5_permit_4 (by decide) (fun c_1 => ?_) (fun c_1 => ?_)
  · skip
    exact absurd c_1 (by decide)
  · skip
    refine lv_iload_n hx hb dX5_permit_7 rfl (lv_at hl 2 rfl) ?_
    refine goI0 (va_runS (As := [.int x]) (rest := []) ⟨hx, hb, hml, hown, hts⟩ (CtI.use (c_X5_isPuddle l G ca x) H.size) (va_cwS 1 hts gX5_permit_X5_isPuddle rfl rfl rfl (by decide +kernel) ⟨Nat.le_of_ble_eq_true rfl, Nat.le_of_ble_eq_true rfl⟩) (pcW_S hev P_nil (D_nil (A := A))) rfl rfl hl.1 rfl (lv_room (Nat.le_of_ble_eq_true rfl)) dX5_permit_8 ⟨Nat.zero_le _, Nat.zero_le _⟩) hP hS hA (fun H locs hP hS => ?_)
    refine lv_eqi (y := 0) (by exact inC_po hx0) ?_
    refine lv_if_ne (tgt := 16) hx hb dX5_permit_11 (by decide) (fun c_2 => ?_) (fun c_2 => ?_)
    · skip
      exact absurd (by decide) c_2
    · skip
      refine lv_iconst (v := (-1)) hx hb dX5_permit_14 (by decide) ?_
      exact hret _ _ _ _ hP hS dX5_permit_15
set_option maxHeartbeats 4000000 in
set_option maxRecDepth 100000 in
theorem c_X5_permit_ducks (l : Launch) (G : va_G) (ca : Nat → ClassId) (h : Nat) (a : Nat → Nat) (M : MM) (w : Nat) (p : Nat) (hw : w < 6) (hp1 : p < 12) (hd : ¬ zDk (m_z M) p = 0) : CtI l yX5_permit wsX5_permit ({ frames := 2, cells := 0, slots := 0, locals := 43 }) [.ref h, .int (nI w), .int (nI p)] G ca (moT ca h a M) (moT ca h a M) (-5) := by
  refine CtI.ofW (cc := cX5_permit) (maxL := 3) (rt := .int) (by decide) rfl (Nat.le_of_ble_eq_true rfl) rfl ?_
  intro pr en s m be me c A ls Q H hx hb hml hts hown hev hP hD hA hS hl hret
  have hown : s.vm.findClass RX5 = some m.cls := hown
  have hl : lv_has ls 3 [(0, .ref h), (1, .int (nI w)), (2, .int (nI p))] := hl
  have in_wsX50 : ∀ w ∈ wsX50, w ∈ wsX5_permit := fun _ h => List.mem_cons_of_mem _ (List.mem_append_right _ h)
  refine lv_iload_n hx hb dX5_permit_0 rfl (lv_at hl 1 rfl) ?_
  refine goI0 (va_runS (As := [.int (nI w)]) (rest := []) ⟨hx, hb, hml, hown, hts⟩ (CtI.use (c_X5_isWalker l G ca (nI w)) H.size) (va_cwS 1 hts gX5_permit_X5_isWalker rfl rfl rfl (by decide +kernel) ⟨Nat.le_of_ble_eq_true rfl, Nat.le_of_ble_eq_true rfl⟩) (pcW_S hev P_nil (D_nil (A := A))) rfl rfl hl.1 rfl (lv_room (Nat.le_of_ble_eq_true rfl)) dX5_permit_1 ⟨Nat.zero_le _, Nat.zero_le _⟩) hP hS hA (fun H locs hP hS => ?_)
  refine lv_eqi (y := 1) (by exact inC_w (by omega)) ?_
  refine lv_if_eq (tgt := 14) hx hb dX5_permit_4 (by decide) (fun c_1 => ?_) (fun c_1 => ?_)
  · skip
    exact absurd c_1 (by decide)
  · skip
    refine lv_iload_n hx hb dX5_permit_7 rfl (lv_at hl 2 rfl) ?_
    refine goI0 (va_runS (As := [.int (nI p)]) (rest := []) ⟨hx, hb, hml, hown, hts⟩ (CtI.use (c_X5_isPuddle l G ca (nI p)) H.size) (va_cwS 1 hts gX5_permit_X5_isPuddle rfl rfl rfl (by decide +kernel) ⟨Nat.le_of_ble_eq_true rfl, Nat.le_of_ble_eq_true rfl⟩) (pcW_S hev P_nil (D_nil (A := A))) rfl rfl hl.1 rfl (lv_room (Nat.le_of_ble_eq_true rfl)) dX5_permit_8 ⟨Nat.zero_le _, Nat.zero_le _⟩) hP hS hA (fun H locs hP hS => ?_)
    refine lv_eqi (y := 1) (by exact inC_p (by omega)) ?_
    refine lv_if_ne (tgt := 16) hx hb dX5_permit_11 (by decide) (fun c_2 => ?_) (fun c_2 => ?_)
    · skip
      refine lv_aload_n hx hb dX5_permit_16 rfl (lv_at hl 0 rfl) ?_
      refine lv_iload_n hx hb dX5_permit_17 rfl (lv_at hl 2 rfl) ?_
      refine goIw (va_runV (As := [.int (nI p)]) (rest := []) ⟨hx, hb, hml, hown, hts⟩ (CtI.use (c_X5_hasDucks l G ca h a M p (by omega)) H.size) (cwV 1 hts gX5_permit_X5_hasDucks rfl rfl rfl (by decide +kernel) ⟨Nat.le_of_ble_eq_true rfl, Nat.le_of_ble_eq_true rfl⟩) (pcW_V hev hP hD (q0 := 0) rfl rfl rfl) rfl rfl hl.1 rfl (lv_room (Nat.le_of_ble_eq_true rfl)) dX5_permit_18 ⟨Nat.zero_le _, Nat.zero_le _⟩) hD hS hA moF (fun H locs hP hD hS => ?_)
      refine lv_if_eq (tgt := 27) hx hb dX5_permit_21 (by decide) (fun c_3 => ?_) (fun c_3 => ?_)
      · skip
        exact absurd c_3 hd
      · skip
        refine lv_bipush (v := (-5)) hx hb dX5_permit_24 (by decide) ?_
        exact hret _ _ _ _ hP hS dX5_permit_26
    · skip
      exact absurd c_2 (by decide)
set_option maxHeartbeats 4000000 in
set_option maxRecDepth 100000 in
theorem c_X5_permit_ok (l : Launch) (G : va_G) (ca : Nat → ClassId) (h : Nat) (a : Nat → Nat) (M : MM) (w : Nat) (p : Nat) (k6 : Nat) (n820 : Nat) (hst : m_states M = nI k6) (hk6 : k6 ≤ 6) (h820 : n820 = 820) (hw : w < 6) (hp1 : p < 12) (hd : zDk (m_z M) p = 0) : CtI l yX5_permit wsX5_permit ({ frames := 2, cells := 0, slots := 0, locals := 45 }) [.ref h, .int (nI w), .int (nI p)] G ca (moT ca h a M) (moT ca h a (upd (m_z M) (92 + 12 * w + p) (m_z M 3), recP (m_past M) (m_z M) k6 n820, nI (recN k6), m_slots M, m_isSaved M, m_pad M, m_typed M, m_spot M, m_told M, m_toldMany M)) (szN (orD (zPg (upd (m_z M) (92 + 12 * w + p) (m_z M 3)) w) 12)) := by
  refine CtI.ofW (cc := cX5_permit) (maxL := 3) (rt := .int) (by decide) rfl (Nat.le_of_ble_eq_true rfl) rfl ?_
  intro pr en s m be me c A ls Q H hx hb hml hts hown hev hP hD hA hS hl hret
  have hown : s.vm.findClass RX5 = some m.cls := hown
  have hl : lv_has ls 3 [(0, .ref h), (1, .int (nI w)), (2, .int (nI p))] := hl
  have in_wsX50 : ∀ w ∈ wsX50, w ∈ wsX5_permit := fun _ h => List.mem_cons_of_mem _ (List.mem_append_right _ h)
  refine lv_iload_n hx hb dX5_permit_0 rfl (lv_at hl 1 rfl) ?_
  refine goI0 (va_runS (As := [.int (nI w)]) (rest := []) ⟨hx, hb, hml, hown, hts⟩ (CtI.use (c_X5_isWalker l G ca (nI w)) H.size) (va_cwS 1 hts gX5_permit_X5_isWalker rfl rfl rfl (by decide +kernel) ⟨Nat.le_of_ble_eq_true rfl, Nat.le_of_ble_eq_true rfl⟩) (pcW_S hev P_nil (D_nil (A := A))) rfl rfl hl.1 rfl (lv_room (Nat.le_of_ble_eq_true rfl)) dX5_permit_1 ⟨Nat.zero_le _, Nat.zero_le _⟩) hP hS hA (fun H locs hP hS => ?_)
  refine lv_eqi (y := 1) (by exact inC_w (by omega)) ?_
  refine lv_if_eq (tgt := 14) hx hb dX5_permit_4 (by decide) (fun c_1 => ?_) (fun c_1 => ?_)
  · skip
    exact absurd c_1 (by decide)
  · skip
    refine lv_iload_n hx hb dX5_permit_7 rfl (lv_at hl 2 rfl) ?_
    refine goI0 (va_runS (As := [.int (nI p)]) (rest := []) ⟨hx, hb, hml, hown, hts⟩ (CtI.use (c_X5_isPuddle l G ca (nI p)) H.size) (va_cwS 1 hts gX5_permit_X5_isPuddle rfl rfl rfl (by decide +kernel) ⟨Nat.le_of_ble_eq_true rfl, Nat.le_of_ble_eq_true rfl⟩) (pcW_S hev P_nil (D_nil (A := A))) rfl rfl hl.1 rfl (lv_room (Nat.le_of_ble_eq_true rfl)) dX5_permit_8 ⟨Nat.zero_le _, Nat.zero_le _⟩) hP hS hA (fun H locs hP hS => ?_)
    refine lv_eqi (y := 1) (by exact inC_p (by omega)) ?_
    refine lv_if_ne (tgt := 16) hx hb dX5_permit_11 (by decide) (fun c_2 => ?_) (fun c_2 => ?_)
    · skip
      refine lv_aload_n hx hb dX5_permit_16 rfl (lv_at hl 0 rfl) ?_
      refine lv_iload_n hx hb dX5_permit_17 rfl (lv_at hl 2 rfl) ?_
      refine goIw (va_runV (As := [.int (nI p)]) (rest := []) ⟨hx, hb, hml, hown, hts⟩ (CtI.use (c_X5_hasDucks l G ca h a M p (by omega)) H.size) (cwV 1 hts gX5_permit_X5_hasDucks rfl rfl rfl (by decide +kernel) ⟨Nat.le_of_ble_eq_true rfl, Nat.le_of_ble_eq_true rfl⟩) (pcW_V hev hP hD (q0 := 0) rfl rfl rfl) rfl rfl hl.1 rfl (lv_room (Nat.le_of_ble_eq_true rfl)) dX5_permit_18 ⟨Nat.zero_le _, Nat.zero_le _⟩) hD hS hA moF (fun H locs hP hD hS => ?_)
      refine lv_if_eq (tgt := 27) hx hb dX5_permit_21 (by decide) (fun c_3 => ?_) (fun c_3 => ?_)
      · skip
        refine lv_aload_n hx hb dX5_permit_27 rfl (lv_at hl 0 rfl) ?_
        refine goVw (va_runV (As := []) (rest := []) ⟨hx, hb, hml, hown, hts⟩ (CtV.use (c_X5_record l G ca h a M k6 n820 hst hk6 h820) H.size) (cwV 0 hts gX5_permit_X5_record rfl rfl rfl (by decide +kernel) ⟨Nat.le_of_ble_eq_true rfl, Nat.le_of_ble_eq_true rfl⟩) (pcW_V hev hP hD (q0 := 0) rfl rfl rfl) rfl rfl hl.1 rfl (lv_room (Nat.le_of_ble_eq_true rfl)) dX5_permit_28 ⟨Nat.zero_le _, Nat.zero_le _⟩) hD hS hA moF (fun H locs hP hD hS => ?_)
        refine lv_aload_n hx hb dX5_permit_31 rfl (lv_at hl 0 rfl) ?_
        refine va_get (D := G) (ci := 5) (v := .ref (a 0)) (C := RX5) (T := TX5) (N := 10) hx hb hts in_wsX50 hown hev.1 hP 0 rfl rfl 0 (by decide) (hts (.fieldLink RX5 7 "PuddleMinistriesModel" "z" "[I") (List.mem_of_getElem? (i := 1) rfl)) (fun _ h9 => h9) rfl dX5_permit_32 ?_
        refine lv_bipush (v := nI 92) hx hb dX5_permit_35 (by decide) ?_
        refine lv_bipush (v := nI 12) hx hb dX5_permit_37 (by decide) ?_
        refine lv_iload_n hx hb dX5_permit_39 rfl (lv_at hl 1 rfl) ?_
        refine lv_imul hx hb dX5_permit_40 ?_
        refine lv_eqi (pk_mul _ _) ?_
        refine lv_iadd hx hb dX5_permit_41 ?_
        refine lv_eqi (nI_add _ _) ?_
        refine lv_iload_n hx hb dX5_permit_42 rfl (lv_at hl 2 rfl) ?_
        refine lv_iadd hx hb dX5_permit_43 ?_
        refine lv_eqi (nI_add _ _) ?_
        refine lv_aload_n hx hb dX5_permit_44 rfl (lv_at hl 0 rfl) ?_
        refine va_get (D := G) (ci := 5) (v := .ref (a 0)) (C := RX5) (T := TX5) (N := 10) hx hb hts in_wsX50 hown hev.1 hP 0 rfl rfl 0 (by decide) (hts (.fieldLink RX5 7 "PuddleMinistriesModel" "z" "[I") (List.mem_of_getElem? (i := 1) rfl)) (fun _ h9 => h9) rfl dX5_permit_45 ?_
        refine lv_iconst (v := nI 3) hx hb dX5_permit_48 (by decide) ?_
        refine b_iald hx hb hev.1 hP 1 rfl rfl (j := 3) (by omega) (by decide) dX5_permit_49 ?_
        refine b_iast hx hb hev.1 hP hD hS 1 rfl rfl (j := ((92 + (12 * w)) + p)) (by omega) (by decide) dX5_permit_50 (fun H locs hP hD hS => ?_)
        have hP : va_P G vwCl (moT ca h a (upd (m_z M) ((92 + (12 * w)) + p) ((m_z M) 3), recP ((m_past M)) ((m_z M)) k6 n820, nI (recN k6), m_slots M, m_isSaved M, m_pad M, m_typed M, m_spot M, m_told M, m_toldMany M)) H := hP
        have hD : va_D A (moT ca h a (upd (m_z M) ((92 + (12 * w)) + p) ((m_z M) 3), recP ((m_past M)) ((m_z M)) k6 n820, nI (recN k6), m_slots M, m_isSaved M, m_pad M, m_typed M, m_spot M, m_told M, m_toldMany M)) := hD
        refine lv_aload_n hx hb dX5_permit_51 rfl (lv_at hl 0 rfl) ?_
        refine lv_iload_n hx hb dX5_permit_52 rfl (lv_at hl 1 rfl) ?_
        refine goIw (va_runV (As := [.int (nI w)]) (rest := []) ⟨hx, hb, hml, hown, hts⟩ (CtI.use (c_X5_permits l G ca h a (upd (m_z M) ((92 + (12 * w)) + p) ((m_z M) 3), recP ((m_past M)) ((m_z M)) k6 n820, nI (recN k6), m_slots M, m_isSaved M, m_pad M, m_typed M, m_spot M, m_told M, m_toldMany M) w (by omega)) H.size) (cwV 1 hts gX5_permit_X5_permits rfl rfl rfl (by decide +kernel) ⟨Nat.le_of_ble_eq_true rfl, Nat.le_of_ble_eq_true rfl⟩) (pcW_V hev hP hD (q0 := 0) rfl rfl rfl) rfl rfl hl.1 rfl (lv_room (Nat.le_of_ble_eq_true rfl)) dX5_permit_53 ⟨Nat.zero_le _, Nat.zero_le _⟩) hD hS hA moF (fun H locs hP hD hS => ?_)
        refine lv_eqi (y := orD (zPg (upd (m_z M) ((92 + (12 * w)) + p) ((m_z M) 3)) w) 12) rfl ?_
        refine goI0 (va_runS (As := [.int (orD (zPg (upd (m_z M) ((92 + (12 * w)) + p) ((m_z M) 3)) w) 12)]) (rest := []) ⟨hx, hb, hml, hown, hts⟩ (CtI.use (c_X5_size l G ca (orD (zPg (upd (m_z M) ((92 + (12 * w)) + p) ((m_z M) 3)) w) 12)) H.size) (va_cwS 1 hts gX5_permit_X5_size rfl rfl rfl (by decide +kernel) ⟨Nat.le_of_ble_eq_true rfl, Nat.le_of_ble_eq_true rfl⟩) (pcW_S hev P_nil (D_nil (A := A))) rfl rfl hl.1 rfl (lv_room (Nat.le_of_ble_eq_true rfl)) dX5_permit_56 ⟨Nat.zero_le _, Nat.zero_le _⟩) hP hS hA (fun H locs hP hS => ?_)
        refine lv_eqi (y := szN (orD (zPg (upd (m_z M) (92 + 12 * w + p) (m_z M 3)) w) 12)) rfl ?_
        exact hret _ _ _ _ hP hS dX5_permit_59
      · skip
        exact absurd hd c_3
    · skip
      exact absurd c_2 (by decide)
set_option maxHeartbeats 4000000 in
set_option maxRecDepth 100000 in
theorem c_X5_pay_out (l : Launch) (G : va_G) (ca : Nat → ClassId) (h : Nat) (a : Nat → Nat) (M : MM) (x : Int32) (hx0 : x < 0 ∨ nI 6 ≤ x) : CtI l yX5_pay wsX5_pay ({ frames := 2, cells := 0, slots := 0, locals := 42 }) [.ref h, .int x] G ca (moT ca h a M) (moT ca h a M) (-1) := by
  refine CtI.ofW (cc := cX5_pay) (maxL := 3) (rt := .int) (by decide) rfl (Nat.le_of_ble_eq_true rfl) rfl ?_
  intro pr en s m be me c A ls Q H hx hb hml hts hown hev hP hD hA hS hl hret
  have hown : s.vm.findClass RX5 = some m.cls := hown
  have hl : lv_has ls 3 [(0, .ref h), (1, .int x)] := hl
  have in_wsX50 : ∀ w ∈ wsX50, w ∈ wsX5_pay := fun _ h => List.mem_cons_of_mem _ (List.mem_append_right _ h)
  refine lv_iload_n hx hb dX5_pay_0 rfl (lv_at hl 1 rfl) ?_
  refine goI0 (va_runS (As := [.int x]) (rest := []) ⟨hx, hb, hml, hown, hts⟩ (CtI.use (c_X5_isWalker l G ca x) H.size) (va_cwS 1 hts gX5_pay_X5_isWalker rfl rfl rfl (by decide +kernel) ⟨Nat.le_of_ble_eq_true rfl, Nat.le_of_ble_eq_true rfl⟩) (pcW_S hev P_nil (D_nil (A := A))) rfl rfl hl.1 rfl (lv_room (Nat.le_of_ble_eq_true rfl)) dX5_pay_1 ⟨Nat.zero_le _, Nat.zero_le _⟩) hP hS hA (fun H locs hP hS => ?_)
  refine lv_eqi (y := 0) (by exact inC_wo hx0) ?_
  refine lv_if_ne (tgt := 9) hx hb dX5_pay_4 (by decide) (fun c_1 => ?_) (fun c_1 => ?_)
  · skip
    exact absurd (by decide) c_1
  · skip
    refine lv_iconst (v := (-1)) hx hb dX5_pay_7 (by decide) ?_
    exact hret _ _ _ _ hP hS dX5_pay_8
set_option maxHeartbeats 4000000 in
set_option maxRecDepth 100000 in
theorem c_X5_pay_ok (l : Launch) (G : va_G) (ca : Nat → ClassId) (h : Nat) (a : Nat → Nat) (M : MM) (w : Nat) (k6 : Nat) (n820 : Nat) (hst : m_states M = nI k6) (hk6 : k6 ≤ 6) (h820 : n820 = 820) (hw : w < 6) : CtI l yX5_pay wsX5_pay ({ frames := 2, cells := 0, slots := 0, locals := 45 }) [.ref h, .int (nI w)] G ca (moT ca h a M) (moT ca h a (upd (upd (m_z M) (68 + 4 * w + 1) 0) (68 + 4 * w + 2) (upd (m_z M) (68 + 4 * w + 1) 0 (68 + 4 * w + 2) + m_z M (68 + 4 * w + 1)), recP (m_past M) (m_z M) k6 n820, nI (recN k6), m_slots M, m_isSaved M, m_pad M, m_typed M, m_spot M, m_told M, m_toldMany M)) (m_z M (68 + 4 * w + 1)) := by
  refine CtI.ofW (cc := cX5_pay) (maxL := 3) (rt := .int) (by decide) rfl (Nat.le_of_ble_eq_true rfl) rfl ?_
  intro pr en s m be me c A ls Q H hx hb hml hts hown hev hP hD hA hS hl hret
  have hown : s.vm.findClass RX5 = some m.cls := hown
  have hl : lv_has ls 3 [(0, .ref h), (1, .int (nI w))] := hl
  have in_wsX50 : ∀ w ∈ wsX50, w ∈ wsX5_pay := fun _ h => List.mem_cons_of_mem _ (List.mem_append_right _ h)
  refine lv_iload_n hx hb dX5_pay_0 rfl (lv_at hl 1 rfl) ?_
  refine goI0 (va_runS (As := [.int (nI w)]) (rest := []) ⟨hx, hb, hml, hown, hts⟩ (CtI.use (c_X5_isWalker l G ca (nI w)) H.size) (va_cwS 1 hts gX5_pay_X5_isWalker rfl rfl rfl (by decide +kernel) ⟨Nat.le_of_ble_eq_true rfl, Nat.le_of_ble_eq_true rfl⟩) (pcW_S hev P_nil (D_nil (A := A))) rfl rfl hl.1 rfl (lv_room (Nat.le_of_ble_eq_true rfl)) dX5_pay_1 ⟨Nat.zero_le _, Nat.zero_le _⟩) hP hS hA (fun H locs hP hS => ?_)
  refine lv_eqi (y := 1) (by exact inC_w (by omega)) ?_
  refine lv_if_ne (tgt := 9) hx hb dX5_pay_4 (by decide) (fun c_1 => ?_) (fun c_1 => ?_)
  · skip
    refine lv_aload_n hx hb dX5_pay_9 rfl (lv_at hl 0 rfl) ?_
    refine goVw (va_runV (As := []) (rest := []) ⟨hx, hb, hml, hown, hts⟩ (CtV.use (c_X5_record l G ca h a M k6 n820 hst hk6 h820) H.size) (cwV 0 hts gX5_pay_X5_record rfl rfl rfl (by decide +kernel) ⟨Nat.le_of_ble_eq_true rfl, Nat.le_of_ble_eq_true rfl⟩) (pcW_V hev hP hD (q0 := 0) rfl rfl rfl) rfl rfl hl.1 rfl (lv_room (Nat.le_of_ble_eq_true rfl)) dX5_pay_10 ⟨Nat.zero_le _, Nat.zero_le _⟩) hD hS hA moF (fun H locs hP hD hS => ?_)
    refine lv_aload_n hx hb dX5_pay_13 rfl (lv_at hl 0 rfl) ?_
    refine lv_iload_n hx hb dX5_pay_14 rfl (lv_at hl 1 rfl) ?_
    refine lv_iconst (v := nI 1) hx hb dX5_pay_15 (by decide) ?_
    refine goIw (va_runV (As := [.int (nI w), .int (nI 1)]) (rest := []) ⟨hx, hb, hml, hown, hts⟩ (CtI.use (c_X5_ofWalker l G ca h a (m_z M, recP ((m_past M)) ((m_z M)) k6 n820, nI (recN k6), m_slots M, m_isSaved M, m_pad M, m_typed M, m_spot M, m_told M, m_toldMany M) w 1 (by omega) (by omega)) H.size) (cwV 2 hts gX5_pay_X5_ofWalker rfl rfl rfl (by decide +kernel) ⟨Nat.le_of_ble_eq_true rfl, Nat.le_of_ble_eq_true rfl⟩) (pcW_V hev hP hD (q0 := 0) rfl rfl rfl) rfl rfl hl.1 rfl (lv_room (Nat.le_of_ble_eq_true rfl)) dX5_pay_16 ⟨Nat.zero_le _, Nat.zero_le _⟩) hD hS hA moF (fun H locs hP hD hS => ?_)
    refine lv_eqi (y := (m_z M) (68 + 4 * w + 1)) rfl ?_
    refine lv_istore_n (lv' := [(2, .int ((m_z M) (68 + 4 * w + 1))), (0, .ref h), (1, .int (nI w))]) hx hb dX5_pay_19 rfl hl (by decide) rfl (fun ls hl => ?_)
    refine lv_aload_n hx hb dX5_pay_20 rfl (lv_at hl 1 rfl) ?_
    refine lv_iload_n hx hb dX5_pay_21 rfl (lv_at hl 2 rfl) ?_
    refine lv_iconst (v := nI 1) hx hb dX5_pay_22 (by decide) ?_
    refine lv_iconst (v := 0) hx hb dX5_pay_23 (by decide) ?_
    refine goVw (va_runV (As := [.int (nI w), .int (nI 1), .int 0]) (rest := []) ⟨hx, hb, hml, hown, hts⟩ (CtV.use (c_X5_layWalker l G ca h a (m_z M, recP ((m_past M)) ((m_z M)) k6 n820, nI (recN k6), m_slots M, m_isSaved M, m_pad M, m_typed M, m_spot M, m_told M, m_toldMany M) w 1 0 (by omega) (by omega)) H.size) (cwV 3 hts gX5_pay_X5_layWalker rfl rfl rfl (by decide +kernel) ⟨Nat.le_of_ble_eq_true rfl, Nat.le_of_ble_eq_true rfl⟩) (pcW_V hev hP hD (q0 := 0) rfl rfl rfl) rfl rfl hl.1 rfl (lv_room (Nat.le_of_ble_eq_true rfl)) dX5_pay_24 ⟨Nat.zero_le _, Nat.zero_le _⟩) hD hS hA moF (fun H locs hP hD hS => ?_)
    refine lv_aload_n hx hb dX5_pay_27 rfl (lv_at hl 1 rfl) ?_
    refine lv_iload_n hx hb dX5_pay_28 rfl (lv_at hl 2 rfl) ?_
    refine lv_iconst (v := nI 2) hx hb dX5_pay_29 (by decide) ?_
    refine lv_aload_n hx hb dX5_pay_30 rfl (lv_at hl 1 rfl) ?_
    refine lv_iload_n hx hb dX5_pay_31 rfl (lv_at hl 2 rfl) ?_
    refine lv_iconst (v := nI 2) hx hb dX5_pay_32 (by decide) ?_
    refine goIw (va_runV (As := [.int (nI w), .int (nI 2)]) (rest := [.int (nI 2), .int (nI w), .ref h]) ⟨hx, hb, hml, hown, hts⟩ (CtI.use (c_X5_ofWalker l G ca h a (upd ((m_z M)) (68 + 4 * w + 1) 0, recP ((m_past M)) ((m_z M)) k6 n820, nI (recN k6), m_slots M, m_isSaved M, m_pad M, m_typed M, m_spot M, m_told M, m_toldMany M) w 2 (by omega) (by omega)) H.size) (cwV 2 hts gX5_pay_X5_ofWalker rfl rfl rfl (by decide +kernel) ⟨Nat.le_of_ble_eq_true rfl, Nat.le_of_ble_eq_true rfl⟩) (pcW_V hev hP hD (q0 := 0) rfl rfl rfl) rfl rfl hl.1 rfl (lv_room (Nat.le_of_ble_eq_true rfl)) dX5_pay_33 ⟨Nat.zero_le _, Nat.zero_le _⟩) hD hS hA moF (fun H locs hP hD hS => ?_)
    refine lv_eqi (y := (upd (m_z M) (68 + 4 * w + 1) 0) (68 + 4 * w + 2)) rfl ?_
    refine lv_iload_n hx hb dX5_pay_36 rfl (lv_at hl 0 rfl) ?_
    refine lv_iadd hx hb dX5_pay_37 ?_
    refine goVw (va_runV (As := [.int (nI w), .int (nI 2), .int (((upd (m_z M) (68 + 4 * w + 1) 0) (68 + 4 * w + 2)) + ((m_z M) (68 + 4 * w + 1)))]) (rest := []) ⟨hx, hb, hml, hown, hts⟩ (CtV.use (c_X5_layWalker l G ca h a (upd ((m_z M)) (68 + 4 * w + 1) 0, recP ((m_past M)) ((m_z M)) k6 n820, nI (recN k6), m_slots M, m_isSaved M, m_pad M, m_typed M, m_spot M, m_told M, m_toldMany M) w 2 (((upd (m_z M) (68 + 4 * w + 1) 0) (68 + 4 * w + 2)) + ((m_z M) (68 + 4 * w + 1))) (by omega) (by omega)) H.size) (cwV 3 hts gX5_pay_X5_layWalker rfl rfl rfl (by decide +kernel) ⟨Nat.le_of_ble_eq_true rfl, Nat.le_of_ble_eq_true rfl⟩) (pcW_V hev hP hD (q0 := 0) rfl rfl rfl) rfl rfl hl.1 rfl (lv_room (Nat.le_of_ble_eq_true rfl)) dX5_pay_38 ⟨Nat.zero_le _, Nat.zero_le _⟩) hD hS hA moF (fun H locs hP hD hS => ?_)
    refine lv_iload_n hx hb dX5_pay_41 rfl (lv_at hl 0 rfl) ?_
    refine lv_eqi (y := m_z M (68 + 4 * w + 1)) rfl ?_
    exact hret _ _ _ _ hP hS dX5_pay_42
  · skip
    exact absurd c_1 (by decide)
def zW1 (z : Nat → Int32) (w f t : Nat) : Nat → Int32 := upd z (68 + 4 * w + 1) (z (68 + 4 * w + 1) + smD (fun k => zDu z (plc k f t)) (zAl z w f t))
def zW2 (z : Nat → Int32) (w f t : Nat) : Nat → Int32 := upd (zW1 z w f t) (68 + 4 * w + 3) (zW1 z w f t (68 + 4 * w + 3) + nI (zAl z w f t))
def zWk (z : Nat → Int32) (w f t : Nat) : Nat → (Nat → Int32) | 0 => zW2 z w f t | i + 1 => upd (zWk z w f t i) (8 + 5 * plc i f t + 4) (zWk z w f t i (8 + 5 * plc i f t + 4) + 1)
set_option maxHeartbeats 4000000 in
set_option maxRecDepth 100000 in
theorem c_X5_walk_outw (l : Launch) (G : va_G) (ca : Nat → ClassId) (h : Nat) (a : Nat → Nat) (M : MM) (x : Int32) (v : Int32) (y : Int32) (hx0 : x < 0 ∨ nI 6 ≤ x) : CtI l yX5_walk wsX5_walk ({ frames := 2, cells := 0, slots := 0, locals := 42 }) [.ref h, .int x, .int v, .int y] G ca (moT ca h a M) (moT ca h a M) (-1) := by
  refine CtI.ofW (cc := cX5_walk) (maxL := 7) (rt := .int) (by decide) rfl (Nat.le_of_ble_eq_true rfl) rfl ?_
  intro pr en s m be me c A ls Q H hx hb hml hts hown hev hP hD hA hS hl hret
  have hown : s.vm.findClass RX5 = some m.cls := hown
  have hl : lv_has ls 7 [(0, .ref h), (1, .int x), (2, .int v), (3, .int y)] := hl
  have in_wsX50 : ∀ w ∈ wsX50, w ∈ wsX5_walk := fun _ h => List.mem_cons_of_mem _ (List.mem_append_right _ h)
  refine lv_iload_n hx hb dX5_walk_0 rfl (lv_at hl 1 rfl) ?_
  refine goI0 (va_runS (As := [.int x]) (rest := []) ⟨hx, hb, hml, hown, hts⟩ (CtI.use (c_X5_isWalker l G ca x) H.size) (va_cwS 1 hts gX5_walk_X5_isWalker rfl rfl rfl (by decide +kernel) ⟨Nat.le_of_ble_eq_true rfl, Nat.le_of_ble_eq_true rfl⟩) (pcW_S hev P_nil (D_nil (A := A))) rfl rfl hl.1 rfl (lv_room (Nat.le_of_ble_eq_true rfl)) dX5_walk_1 ⟨Nat.zero_le _, Nat.zero_le _⟩) hP hS hA (fun H locs hP hS => ?_)
  refine lv_eqi (y := 0) (by exact inC_wo hx0) ?_
  refine lv_if_eq (tgt := 21) hx hb dX5_walk_4 (by decide) (fun c_1 => ?_) (fun c_1 => ?_)
  · skip
    refine lv_iconst (v := (-1)) hx hb dX5_walk_21 (by decide) ?_
    exact hret _ _ _ _ hP hS dX5_walk_22
  · skip
    exact absurd (by decide) c_1
set_option maxHeartbeats 4000000 in
set_option maxRecDepth 100000 in
theorem c_X5_walk_outf (l : Launch) (G : va_G) (ca : Nat → ClassId) (h : Nat) (a : Nat → Nat) (M : MM) (w : Nat) (x : Int32) (y : Int32) (hw : w < 6) (hx0 : x < 0 ∨ nI 12 ≤ x) : CtI l yX5_walk wsX5_walk ({ frames := 2, cells := 0, slots := 0, locals := 42 }) [.ref h, .int (nI w), .int x, .int y] G ca (moT ca h a M) (moT ca h a M) (-1) := by
  refine CtI.ofW (cc := cX5_walk) (maxL := 7) (rt := .int) (by decide) rfl (Nat.le_of_ble_eq_true rfl) rfl ?_
  intro pr en s m be me c A ls Q H hx hb hml hts hown hev hP hD hA hS hl hret
  have hown : s.vm.findClass RX5 = some m.cls := hown
  have hl : lv_has ls 7 [(0, .ref h), (1, .int (nI w)), (2, .int x), (3, .int y)] := hl
  have in_wsX50 : ∀ w ∈ wsX50, w ∈ wsX5_walk := fun _ h => List.mem_cons_of_mem _ (List.mem_append_right _ h)
  refine lv_iload_n hx hb dX5_walk_0 rfl (lv_at hl 1 rfl) ?_
  refine goI0 (va_runS (As := [.int (nI w)]) (rest := []) ⟨hx, hb, hml, hown, hts⟩ (CtI.use (c_X5_isWalker l G ca (nI w)) H.size) (va_cwS 1 hts gX5_walk_X5_isWalker rfl rfl rfl (by decide +kernel) ⟨Nat.le_of_ble_eq_true rfl, Nat.le_of_ble_eq_true rfl⟩) (pcW_S hev P_nil (D_nil (A := A))) rfl rfl hl.1 rfl (lv_room (Nat.le_of_ble_eq_true rfl)) dX5_walk_1 ⟨Nat.zero_le _, Nat.zero_le _⟩) hP hS hA (fun H locs hP hS => ?_)
  refine lv_eqi (y := 1) (by exact inC_w (by omega)) ?_
  refine lv_if_eq (tgt := 21) hx hb dX5_walk_4 (by decide) (fun c_1 => ?_) (fun c_1 => ?_)
  · skip
    exact absurd c_1 (by decide)
  · skip
    refine lv_iload_n hx hb dX5_walk_7 rfl (lv_at hl 2 rfl) ?_
    refine goI0 (va_runS (As := [.int x]) (rest := []) ⟨hx, hb, hml, hown, hts⟩ (CtI.use (c_X5_isPuddle l G ca x) H.size) (va_cwS 1 hts gX5_walk_X5_isPuddle rfl rfl rfl (by decide +kernel) ⟨Nat.le_of_ble_eq_true rfl, Nat.le_of_ble_eq_true rfl⟩) (pcW_S hev P_nil (D_nil (A := A))) rfl rfl hl.1 rfl (lv_room (Nat.le_of_ble_eq_true rfl)) dX5_walk_8 ⟨Nat.zero_le _, Nat.zero_le _⟩) hP hS hA (fun H locs hP hS => ?_)
    refine lv_eqi (y := 0) (by exact inC_po hx0) ?_
    refine lv_if_eq (tgt := 21) hx hb dX5_walk_11 (by decide) (fun c_2 => ?_) (fun c_2 => ?_)
    · skip
      refine lv_iconst (v := (-1)) hx hb dX5_walk_21 (by decide) ?_
      exact hret _ _ _ _ hP hS dX5_walk_22
    · skip
      exact absurd (by decide) c_2
set_option maxHeartbeats 4000000 in
set_option maxRecDepth 100000 in
theorem c_X5_walk_outt (l : Launch) (G : va_G) (ca : Nat → ClassId) (h : Nat) (a : Nat → Nat) (M : MM) (w : Nat) (f : Nat) (x : Int32) (hw : w < 6) (hf : f < 12) (hx0 : x < 0 ∨ nI 12 ≤ x) : CtI l yX5_walk wsX5_walk ({ frames := 2, cells := 0, slots := 0, locals := 42 }) [.ref h, .int (nI w), .int (nI f), .int x] G ca (moT ca h a M) (moT ca h a M) (-1) := by
  refine CtI.ofW (cc := cX5_walk) (maxL := 7) (rt := .int) (by decide) rfl (Nat.le_of_ble_eq_true rfl) rfl ?_
  intro pr en s m be me c A ls Q H hx hb hml hts hown hev hP hD hA hS hl hret
  have hown : s.vm.findClass RX5 = some m.cls := hown
  have hl : lv_has ls 7 [(0, .ref h), (1, .int (nI w)), (2, .int (nI f)), (3, .int x)] := hl
  have in_wsX50 : ∀ w ∈ wsX50, w ∈ wsX5_walk := fun _ h => List.mem_cons_of_mem _ (List.mem_append_right _ h)
  refine lv_iload_n hx hb dX5_walk_0 rfl (lv_at hl 1 rfl) ?_
  refine goI0 (va_runS (As := [.int (nI w)]) (rest := []) ⟨hx, hb, hml, hown, hts⟩ (CtI.use (c_X5_isWalker l G ca (nI w)) H.size) (va_cwS 1 hts gX5_walk_X5_isWalker rfl rfl rfl (by decide +kernel) ⟨Nat.le_of_ble_eq_true rfl, Nat.le_of_ble_eq_true rfl⟩) (pcW_S hev P_nil (D_nil (A := A))) rfl rfl hl.1 rfl (lv_room (Nat.le_of_ble_eq_true rfl)) dX5_walk_1 ⟨Nat.zero_le _, Nat.zero_le _⟩) hP hS hA (fun H locs hP hS => ?_)
  refine lv_eqi (y := 1) (by exact inC_w (by omega)) ?_
  refine lv_if_eq (tgt := 21) hx hb dX5_walk_4 (by decide) (fun c_1 => ?_) (fun c_1 => ?_)
  · skip
    exact absurd c_1 (by decide)
  · skip
    refine lv_iload_n hx hb dX5_walk_7 rfl (lv_at hl 2 rfl) ?_
    refine goI0 (va_runS (As := [.int (nI f)]) (rest := []) ⟨hx, hb, hml, hown, hts⟩ (CtI.use (c_X5_isPuddle l G ca (nI f)) H.size) (va_cwS 1 hts gX5_walk_X5_isPuddle rfl rfl rfl (by decide +kernel) ⟨Nat.le_of_ble_eq_true rfl, Nat.le_of_ble_eq_true rfl⟩) (pcW_S hev P_nil (D_nil (A := A))) rfl rfl hl.1 rfl (lv_room (Nat.le_of_ble_eq_true rfl)) dX5_walk_8 ⟨Nat.zero_le _, Nat.zero_le _⟩) hP hS hA (fun H locs hP hS => ?_)
    refine lv_eqi (y := 1) (by exact inC_p (by omega)) ?_
    refine lv_if_eq (tgt := 21) hx hb dX5_walk_11 (by decide) (fun c_2 => ?_) (fun c_2 => ?_)
    · skip
      exact absurd c_2 (by decide)
    · skip
      refine lv_iload_n hx hb dX5_walk_14 rfl (lv_at hl 3 rfl) ?_
      refine goI0 (va_runS (As := [.int x]) (rest := []) ⟨hx, hb, hml, hown, hts⟩ (CtI.use (c_X5_isPuddle l G ca x) H.size) (va_cwS 1 hts gX5_walk_X5_isPuddle rfl rfl rfl (by decide +kernel) ⟨Nat.le_of_ble_eq_true rfl, Nat.le_of_ble_eq_true rfl⟩) (pcW_S hev P_nil (D_nil (A := A))) rfl rfl hl.1 rfl (lv_room (Nat.le_of_ble_eq_true rfl)) dX5_walk_15 ⟨Nat.zero_le _, Nat.zero_le _⟩) hP hS hA (fun H locs hP hS => ?_)
      refine lv_eqi (y := 0) (by exact inC_po hx0) ?_
      refine lv_if_ne (tgt := 23) hx hb dX5_walk_18 (by decide) (fun c_3 => ?_) (fun c_3 => ?_)
      · skip
        exact absurd (by decide) c_3
      · skip
        refine lv_iconst (v := (-1)) hx hb dX5_walk_21 (by decide) ?_
        exact hret _ _ _ _ hP hS dX5_walk_22
set_option maxHeartbeats 4000000 in
set_option maxRecDepth 100000 in
theorem c_X5_walk_ok (l : Launch) (G : va_G) (ca : Nat → ClassId) (h : Nat) (a : Nat → Nat) (M : MM) (w : Nat) (f : Nat) (t : Nat) (k6 : Nat) (n820 : Nat) (hst : m_states M = nI k6) (hk6 : k6 ≤ 6) (h820 : n820 = 820) (hw : w < 6) (hf : f < 12) (ht : t < 12) : CtI l yX5_walk wsX5_walk ({ frames := 5, cells := 0, slots := 0, locals := 115 }) [.ref h, .int (nI w), .int (nI f), .int (nI t)] G ca (moT ca h a M) (moT ca h a (zWk (m_z M) w f t (zAl (m_z M) w f t), recP (m_past M) (m_z M) k6 n820, nI (recN k6), m_slots M, m_isSaved M, m_pad M, m_typed M, m_spot M, m_told M, m_toldMany M)) (nI (zAl (m_z M) w f t)) := by
  refine CtI.ofW (cc := cX5_walk) (maxL := 7) (rt := .int) (by decide) rfl (Nat.le_of_ble_eq_true rfl) rfl ?_
  intro pr en s m be me c A ls Q H hx hb hml hts hown hev hP hD hA hS hl hret
  have hown : s.vm.findClass RX5 = some m.cls := hown
  have hl : lv_has ls 7 [(0, .ref h), (1, .int (nI w)), (2, .int (nI f)), (3, .int (nI t))] := hl
  have in_wsX50 : ∀ w ∈ wsX50, w ∈ wsX5_walk := fun _ h => List.mem_cons_of_mem _ (List.mem_append_right _ h)
  have hst2 := zAl_le (m_z M) w f t
  refine lv_iload_n hx hb dX5_walk_0 rfl (lv_at hl 1 rfl) ?_
  refine goI0 (va_runS (As := [.int (nI w)]) (rest := []) ⟨hx, hb, hml, hown, hts⟩ (CtI.use (c_X5_isWalker l G ca (nI w)) H.size) (va_cwS 1 hts gX5_walk_X5_isWalker rfl rfl rfl (by decide +kernel) ⟨Nat.le_of_ble_eq_true rfl, Nat.le_of_ble_eq_true rfl⟩) (pcW_S hev P_nil (D_nil (A := A))) rfl rfl hl.1 rfl (lv_room (Nat.le_of_ble_eq_true rfl)) dX5_walk_1 ⟨Nat.zero_le _, Nat.zero_le _⟩) hP hS hA (fun H locs hP hS => ?_)
  refine lv_eqi (y := 1) (by exact inC_w (by omega)) ?_
  refine lv_if_eq (tgt := 21) hx hb dX5_walk_4 (by decide) (fun c_1 => ?_) (fun c_1 => ?_)
  · skip
    exact absurd c_1 (by decide)
  · skip
    refine lv_iload_n hx hb dX5_walk_7 rfl (lv_at hl 2 rfl) ?_
    refine goI0 (va_runS (As := [.int (nI f)]) (rest := []) ⟨hx, hb, hml, hown, hts⟩ (CtI.use (c_X5_isPuddle l G ca (nI f)) H.size) (va_cwS 1 hts gX5_walk_X5_isPuddle rfl rfl rfl (by decide +kernel) ⟨Nat.le_of_ble_eq_true rfl, Nat.le_of_ble_eq_true rfl⟩) (pcW_S hev P_nil (D_nil (A := A))) rfl rfl hl.1 rfl (lv_room (Nat.le_of_ble_eq_true rfl)) dX5_walk_8 ⟨Nat.zero_le _, Nat.zero_le _⟩) hP hS hA (fun H locs hP hS => ?_)
    refine lv_eqi (y := 1) (by exact inC_p (by omega)) ?_
    refine lv_if_eq (tgt := 21) hx hb dX5_walk_11 (by decide) (fun c_2 => ?_) (fun c_2 => ?_)
    · skip
      exact absurd c_2 (by decide)
    · skip
      refine lv_iload_n hx hb dX5_walk_14 rfl (lv_at hl 3 rfl) ?_
      refine goI0 (va_runS (As := [.int (nI t)]) (rest := []) ⟨hx, hb, hml, hown, hts⟩ (CtI.use (c_X5_isPuddle l G ca (nI t)) H.size) (va_cwS 1 hts gX5_walk_X5_isPuddle rfl rfl rfl (by decide +kernel) ⟨Nat.le_of_ble_eq_true rfl, Nat.le_of_ble_eq_true rfl⟩) (pcW_S hev P_nil (D_nil (A := A))) rfl rfl hl.1 rfl (lv_room (Nat.le_of_ble_eq_true rfl)) dX5_walk_15 ⟨Nat.zero_le _, Nat.zero_le _⟩) hP hS hA (fun H locs hP hS => ?_)
      refine lv_eqi (y := 1) (by exact inC_p (by omega)) ?_
      refine lv_if_ne (tgt := 23) hx hb dX5_walk_18 (by decide) (fun c_3 => ?_) (fun c_3 => ?_)
      · skip
        refine lv_aload_n hx hb dX5_walk_23 rfl (lv_at hl 0 rfl) ?_
        refine goVw (va_runV (As := []) (rest := []) ⟨hx, hb, hml, hown, hts⟩ (CtV.use (c_X5_record l G ca h a M k6 n820 hst hk6 h820) H.size) (cwV 0 hts gX5_walk_X5_record rfl rfl rfl (by decide +kernel) ⟨Nat.le_of_ble_eq_true rfl, Nat.le_of_ble_eq_true rfl⟩) (pcW_V hev hP hD (q0 := 0) rfl rfl rfl) rfl rfl hl.1 rfl (lv_room (Nat.le_of_ble_eq_true rfl)) dX5_walk_24 ⟨Nat.zero_le _, Nat.zero_le _⟩) hD hS hA moF (fun H locs hP hD hS => ?_)
        refine lv_aload_n hx hb dX5_walk_27 rfl (lv_at hl 0 rfl) ?_
        refine lv_iload_n hx hb dX5_walk_28 rfl (lv_at hl 1 rfl) ?_
        refine lv_iload_n hx hb dX5_walk_29 rfl (lv_at hl 2 rfl) ?_
        refine lv_iload_n hx hb dX5_walk_30 rfl (lv_at hl 3 rfl) ?_
        refine goIw (va_runV (As := [.int (nI w), .int (nI f), .int (nI t)]) (rest := []) ⟨hx, hb, hml, hown, hts⟩ (CtI.use (c_X5_allowed l G ca h a (m_z M, recP ((m_past M)) ((m_z M)) k6 n820, nI (recN k6), m_slots M, m_isSaved M, m_pad M, m_typed M, m_spot M, m_told M, m_toldMany M) w f t (by omega) (by omega) (by omega)) H.size) (cwV 3 hts gX5_walk_X5_allowed rfl rfl rfl (by decide +kernel) ⟨Nat.le_of_ble_eq_true rfl, Nat.le_of_ble_eq_true rfl⟩) (pcW_V hev hP hD (q0 := 0) rfl rfl rfl) rfl rfl hl.1 rfl (lv_room (Nat.le_of_ble_eq_true rfl)) dX5_walk_31 ⟨Nat.zero_le _, Nat.zero_le _⟩) hD hS hA moF (fun H locs hP hD hS => ?_)
        refine lv_eqi (y := nI (zAl (m_z M) w f t)) rfl ?_
        refine lv_istore (lv' := [(4, .int (nI (zAl (m_z M) w f t))), (0, .ref h), (1, .int (nI w)), (2, .int (nI f)), (3, .int (nI t))]) hx hb dX5_walk_34 hl (by decide) rfl (fun ls hl => ?_)
        refine lv_aload_n hx hb dX5_walk_36 rfl (lv_at hl 1 rfl) ?_
        refine lv_iload_n hx hb dX5_walk_37 rfl (lv_at hl 2 rfl) ?_
        refine lv_iconst (v := nI 1) hx hb dX5_walk_38 (by decide) ?_
        refine lv_aload_n hx hb dX5_walk_39 rfl (lv_at hl 1 rfl) ?_
        refine lv_iload_n hx hb dX5_walk_40 rfl (lv_at hl 2 rfl) ?_
        refine lv_iconst (v := nI 1) hx hb dX5_walk_41 (by decide) ?_
        refine goIw (va_runV (As := [.int (nI w), .int (nI 1)]) (rest := [.int (nI 1), .int (nI w), .ref h]) ⟨hx, hb, hml, hown, hts⟩ (CtI.use (c_X5_ofWalker l G ca h a (m_z M, recP ((m_past M)) ((m_z M)) k6 n820, nI (recN k6), m_slots M, m_isSaved M, m_pad M, m_typed M, m_spot M, m_told M, m_toldMany M) w 1 (by omega) (by omega)) H.size) (cwV 2 hts gX5_walk_X5_ofWalker rfl rfl rfl (by decide +kernel) ⟨Nat.le_of_ble_eq_true rfl, Nat.le_of_ble_eq_true rfl⟩) (pcW_V hev hP hD (q0 := 0) rfl rfl rfl) rfl rfl hl.1 rfl (lv_room (Nat.le_of_ble_eq_true rfl)) dX5_walk_42 ⟨Nat.zero_le _, Nat.zero_le _⟩) hD hS hA moF (fun H locs hP hD hS => ?_)
        refine lv_eqi (y := (m_z M) (68 + 4 * w + 1)) rfl ?_
        refine lv_aload_n hx hb dX5_walk_45 rfl (lv_at hl 1 rfl) ?_
        refine lv_iload_n hx hb dX5_walk_46 rfl (lv_at hl 3 rfl) ?_
        refine lv_iload_n hx hb dX5_walk_47 rfl (lv_at hl 4 rfl) ?_
        refine lv_iload hx hb dX5_walk_48 (lv_at hl 0 rfl) ?_
        refine goIw (va_runV (As := [.int (nI f), .int (nI t), .int (nI (zAl (m_z M) w f t))]) (rest := [.int ((m_z M) (68 + 4 * w + 1)), .int (nI 1), .int (nI w), .ref h]) ⟨hx, hb, hml, hown, hts⟩ (CtI.use (c_X5_duties l G ca h a (m_z M, recP ((m_past M)) ((m_z M)) k6 n820, nI (recN k6), m_slots M, m_isSaved M, m_pad M, m_typed M, m_spot M, m_told M, m_toldMany M) f t (zAl (m_z M) w f t) (by omega) (by omega) (by omega)) H.size) (cwV 3 hts gX5_walk_X5_duties rfl rfl rfl (by decide +kernel) ⟨Nat.le_of_ble_eq_true rfl, Nat.le_of_ble_eq_true rfl⟩) (pcW_V hev hP hD (q0 := 0) rfl rfl rfl) rfl rfl hl.1 rfl (lv_room (Nat.le_of_ble_eq_true rfl)) dX5_walk_50 ⟨Nat.zero_le _, Nat.zero_le _⟩) hD hS hA moF (fun H locs hP hD hS => ?_)
        refine lv_eqi (y := smD (fun k => zDu (m_z M) (plc k f t)) (zAl (m_z M) w f t)) rfl ?_
        refine lv_iadd hx hb dX5_walk_53 ?_
        refine goVw (va_runV (As := [.int (nI w), .int (nI 1), .int (((m_z M) (68 + 4 * w + 1)) + (smD (fun k => zDu (m_z M) (plc k f t)) (zAl (m_z M) w f t)))]) (rest := []) ⟨hx, hb, hml, hown, hts⟩ (CtV.use (c_X5_layWalker l G ca h a (m_z M, recP ((m_past M)) ((m_z M)) k6 n820, nI (recN k6), m_slots M, m_isSaved M, m_pad M, m_typed M, m_spot M, m_told M, m_toldMany M) w 1 (((m_z M) (68 + 4 * w + 1)) + (smD (fun k => zDu (m_z M) (plc k f t)) (zAl (m_z M) w f t))) (by omega) (by omega)) H.size) (cwV 3 hts gX5_walk_X5_layWalker rfl rfl rfl (by decide +kernel) ⟨Nat.le_of_ble_eq_true rfl, Nat.le_of_ble_eq_true rfl⟩) (pcW_V hev hP hD (q0 := 0) rfl rfl rfl) rfl rfl hl.1 rfl (lv_room (Nat.le_of_ble_eq_true rfl)) dX5_walk_54 ⟨Nat.zero_le _, Nat.zero_le _⟩) hD hS hA moF (fun H locs hP hD hS => ?_)
        refine lv_aload_n hx hb dX5_walk_57 rfl (lv_at hl 1 rfl) ?_
        refine lv_iload_n hx hb dX5_walk_58 rfl (lv_at hl 2 rfl) ?_
        refine lv_iconst (v := nI 3) hx hb dX5_walk_59 (by decide) ?_
        refine lv_aload_n hx hb dX5_walk_60 rfl (lv_at hl 1 rfl) ?_
        refine lv_iload_n hx hb dX5_walk_61 rfl (lv_at hl 2 rfl) ?_
        refine lv_iconst (v := nI 3) hx hb dX5_walk_62 (by decide) ?_
        refine goIw (va_runV (As := [.int (nI w), .int (nI 3)]) (rest := [.int (nI 3), .int (nI w), .ref h]) ⟨hx, hb, hml, hown, hts⟩ (CtI.use (c_X5_ofWalker l G ca h a (upd ((m_z M)) (68 + 4 * w + 1) (((m_z M) (68 + 4 * w + 1)) + (smD (fun k => zDu (m_z M) (plc k f t)) (zAl (m_z M) w f t))), recP ((m_past M)) ((m_z M)) k6 n820, nI (recN k6), m_slots M, m_isSaved M, m_pad M, m_typed M, m_spot M, m_told M, m_toldMany M) w 3 (by omega) (by omega)) H.size) (cwV 2 hts gX5_walk_X5_ofWalker rfl rfl rfl (by decide +kernel) ⟨Nat.le_of_ble_eq_true rfl, Nat.le_of_ble_eq_true rfl⟩) (pcW_V hev hP hD (q0 := 0) rfl rfl rfl) rfl rfl hl.1 rfl (lv_room (Nat.le_of_ble_eq_true rfl)) dX5_walk_63 ⟨Nat.zero_le _, Nat.zero_le _⟩) hD hS hA moF (fun H locs hP hD hS => ?_)
        refine lv_eqi (y := (upd (m_z M) (68 + 4 * w + 1) (((m_z M) (68 + 4 * w + 1)) + (smD (fun k => zDu (m_z M) (plc k f t)) (zAl (m_z M) w f t)))) (68 + 4 * w + 3)) rfl ?_
        refine lv_iload hx hb dX5_walk_66 (lv_at hl 0 rfl) ?_
        refine lv_iadd hx hb dX5_walk_68 ?_
        refine goVw (va_runV (As := [.int (nI w), .int (nI 3), .int (((upd (m_z M) (68 + 4 * w + 1) (((m_z M) (68 + 4 * w + 1)) + (smD (fun k => zDu (m_z M) (plc k f t)) (zAl (m_z M) w f t)))) (68 + 4 * w + 3)) + (nI (zAl (m_z M) w f t)))]) (rest := []) ⟨hx, hb, hml, hown, hts⟩ (CtV.use (c_X5_layWalker l G ca h a (upd ((m_z M)) (68 + 4 * w + 1) (((m_z M) (68 + 4 * w + 1)) + (smD (fun k => zDu (m_z M) (plc k f t)) (zAl (m_z M) w f t))), recP ((m_past M)) ((m_z M)) k6 n820, nI (recN k6), m_slots M, m_isSaved M, m_pad M, m_typed M, m_spot M, m_told M, m_toldMany M) w 3 (((upd (m_z M) (68 + 4 * w + 1) (((m_z M) (68 + 4 * w + 1)) + (smD (fun k => zDu (m_z M) (plc k f t)) (zAl (m_z M) w f t)))) (68 + 4 * w + 3)) + (nI (zAl (m_z M) w f t))) (by omega) (by omega)) H.size) (cwV 3 hts gX5_walk_X5_layWalker rfl rfl rfl (by decide +kernel) ⟨Nat.le_of_ble_eq_true rfl, Nat.le_of_ble_eq_true rfl⟩) (pcW_V hev hP hD (q0 := 0) rfl rfl rfl) rfl rfl hl.1 rfl (lv_room (Nat.le_of_ble_eq_true rfl)) dX5_walk_69 ⟨Nat.zero_le _, Nat.zero_le _⟩) hD hS hA moF (fun H locs hP hD hS => ?_)
        refine lv_iconst (v := nI 0) hx hb dX5_walk_72 (by decide) ?_
        refine lv_istore (lv' := [(5, .int (nI 0)), (4, .int (nI (zAl (m_z M) w f t))), (0, .ref h), (1, .int (nI w)), (2, .int (nI f)), (3, .int (nI t))]) hx hb dX5_walk_73 hl (by decide) rfl (fun ls hl => ?_)
        have loop_75 : ∀ (fu i : Nat), i + fu = zAl (m_z M) w f t → ∀ (H : Heap) (locs : List Loc) (ls : Array Slot), va_P G vwCl (moT ca h a (zWk (m_z M) w f t i, recP ((m_past M)) ((m_z M)) k6 n820, nI (recN k6), m_slots M, m_isSaved M, m_pad M, m_typed M, m_spot M, m_told M, m_toldMany M)) H → va_D A (moT ca h a (zWk (m_z M) w f t i, recP ((m_past M)) ((m_z M)) k6 n820, nI (recN k6), m_slots M, m_isSaved M, m_pad M, m_typed M, m_spot M, m_told M, m_toldMany M)) → va_S A s.heap H locs → lv_has ls 7 [(0, .ref h), (1, .int (nI w)), (2, .int (nI f)), (3, .int (nI t)), (4, .int (nI (zAl (m_z M) w f t))), (5, .int (nI i))] → W pr l en ({ frames := 5, cells := 0, slots := 0, locals := 115 } : Room) s m ([.ref h, .int (nI w), .int (nI f), .int (nI t)] : List Value).toArray be me c H locs 0 0 Q (F0 m 75 ls []) := by
          intro fu
          induction fu with
          | zero =>
            intro i hi H locs ls hP hD hS hl
            obtain rfl : i = zAl (m_z M) w f t := by omega
            refine lv_iload hx hb dX5_walk_75 (lv_at hl 5 rfl) ?_
            refine lv_iload hx hb dX5_walk_77 (lv_at hl 4 rfl) ?_
            refine lv_icmp_ge (tgt := 122) hx hb dX5_walk_79 (by decide) (fun c_4 => ?_) (fun c_4 => ?_)
            · skip
              refine lv_iload hx hb dX5_walk_122 (lv_at hl 4 rfl) ?_
              exact hret _ _ _ _ hP hS dX5_walk_124
            · skip
              exact absurd (nI_le (by omega) (by omega)) c_4
          | succ fu ih =>
            intro i hi H locs ls hP hD hS hl
            have hlt : i < zAl (m_z M) w f t := by omega
            refine lv_iload hx hb dX5_walk_75 (lv_at hl 5 rfl) ?_
            refine lv_iload hx hb dX5_walk_77 (lv_at hl 4 rfl) ?_
            refine lv_icmp_ge (tgt := 122) hx hb dX5_walk_79 (by decide) (fun c_5 => ?_) (fun c_5 => ?_)
            · skip
              exact absurd c_5 (nI_ge (by omega) (by omega))
            · skip
              refine lv_iload_n hx hb dX5_walk_82 rfl (lv_at hl 2 rfl) ?_
              refine lv_iload_n hx hb dX5_walk_83 rfl (lv_at hl 3 rfl) ?_
              refine lv_icmp_gt (tgt := 94) hx hb dX5_walk_84 (by decide) (fun c_6 => ?_) (fun c_6 => ?_)
              · skip
                have nc_6 : t < f := (nI_ltI (a := t) (b := f) (by omega) (by omega)).mp c_6
                refine lv_iload_n hx hb dX5_walk_94 rfl (lv_at hl 2 rfl) ?_
                refine lv_iload hx hb dX5_walk_95 (lv_at hl 5 rfl) ?_
                refine lv_isub hx hb dX5_walk_97 ?_
                refine lv_eqi (pk_sub (by omega)) ?_
                refine lv_eqi (y := nI (plc i f t)) (by first | rw [plc, if_pos (by omega)] | rw [plc, if_neg (by omega)]) ?_
                refine lv_istore (lv' := [(6, .int (nI (plc i f t))), (0, .ref h), (1, .int (nI w)), (2, .int (nI f)), (3, .int (nI t)), (4, .int (nI (zAl (m_z M) w f t))), (5, .int (nI i))]) hx hb dX5_walk_98 hl (by decide) rfl (fun ls hl => ?_)
                refine lv_aload_n hx hb dX5_walk_100 rfl (lv_at hl 1 rfl) ?_
                refine lv_iload hx hb dX5_walk_101 (lv_at hl 0 rfl) ?_
                refine lv_iconst (v := nI 4) hx hb dX5_walk_103 (by decide) ?_
                refine lv_aload_n hx hb dX5_walk_104 rfl (lv_at hl 1 rfl) ?_
                refine lv_iload hx hb dX5_walk_105 (lv_at hl 0 rfl) ?_
                refine lv_iconst (v := nI 4) hx hb dX5_walk_107 (by decide) ?_
                refine goIw (va_runV (As := [.int (nI (plc i f t)), .int (nI 4)]) (rest := [.int (nI 4), .int (nI (plc i f t)), .ref h]) ⟨hx, hb, hml, hown, hts⟩ (CtI.use (c_X5_of l G ca h a (zWk (m_z M) w f t i, recP ((m_past M)) ((m_z M)) k6 n820, nI (recN k6), m_slots M, m_isSaved M, m_pad M, m_typed M, m_spot M, m_told M, m_toldMany M) (plc i f t) 4 (plc_lt _ _ _ (by omega) (by omega) (by omega)) (by omega)) H.size) (cwV 2 hts gX5_walk_X5_of rfl rfl rfl (by decide +kernel) ⟨Nat.le_of_ble_eq_true rfl, Nat.le_of_ble_eq_true rfl⟩) (pcW_V hev hP hD (q0 := 0) rfl rfl rfl) rfl rfl hl.1 rfl (lv_room (Nat.le_of_ble_eq_true rfl)) dX5_walk_108 ⟨Nat.zero_le _, Nat.zero_le _⟩) hD hS hA moF (fun H locs hP hD hS => ?_)
                refine lv_eqi (y := (zWk (m_z M) w f t i) (8 + 5 * (plc i f t) + 4)) rfl ?_
                refine lv_iconst (v := 1) hx hb dX5_walk_111 (by decide) ?_
                refine lv_iadd hx hb dX5_walk_112 ?_
                refine goVw (va_runV (As := [.int (nI (plc i f t)), .int (nI 4), .int (((zWk (m_z M) w f t i) (8 + 5 * (plc i f t) + 4)) + 1)]) (rest := []) ⟨hx, hb, hml, hown, hts⟩ (CtV.use (c_X5_lay l G ca h a (zWk (m_z M) w f t i, recP ((m_past M)) ((m_z M)) k6 n820, nI (recN k6), m_slots M, m_isSaved M, m_pad M, m_typed M, m_spot M, m_told M, m_toldMany M) (plc i f t) 4 (((zWk (m_z M) w f t i) (8 + 5 * (plc i f t) + 4)) + 1) (plc_lt _ _ _ (by omega) (by omega) (by omega)) (by omega)) H.size) (cwV 3 hts gX5_walk_X5_lay rfl rfl rfl (by decide +kernel) ⟨Nat.le_of_ble_eq_true rfl, Nat.le_of_ble_eq_true rfl⟩) (pcW_V hev hP hD (q0 := 0) rfl rfl rfl) rfl rfl hl.1 rfl (lv_room (Nat.le_of_ble_eq_true rfl)) dX5_walk_113 ⟨Nat.zero_le _, Nat.zero_le _⟩) hD hS hA moF (fun H locs hP hD hS => ?_)
                refine lv_iinc (v := nI (i + 1)) (lv' := [(5, .int (nI (i + 1))), (6, .int (nI (plc i f t))), (0, .ref h), (1, .int (nI w)), (2, .int (nI f)), (3, .int (nI t)), (4, .int (nI (zAl (m_z M) w f t)))]) hx hb dX5_walk_116 hl (k := 6) rfl (nI_1 _) (by decide) rfl (fun ls hl => ?_)
                refine lv_goto (tgt := 75) hx hb dX5_walk_119 (by decide) ?_
                exact ih (i + 1) (by omega) _ _ _ (by rw [show (zWk (m_z M) w f t (i + 1)) = (upd ((zWk (m_z M) w f t i)) (8 + 5 * (plc i f t) + 4) (((zWk (m_z M) w f t i) (8 + 5 * (plc i f t) + 4)) + 1)) from by rfl]; exact hP) (D_of hD moF) hS (lv_sub hl [2, 3, 4, 5, 6, 0] rfl)
              · skip
                have nc_6 : ¬ t < f := fun q => c_6 ((nI_ltI (a := t) (b := f) (by omega) (by omega)).mpr q)
                refine lv_iload_n hx hb dX5_walk_87 rfl (lv_at hl 2 rfl) ?_
                refine lv_iload hx hb dX5_walk_88 (lv_at hl 5 rfl) ?_
                refine lv_iadd hx hb dX5_walk_90 ?_
                refine lv_eqi (nI_add _ _) ?_
                refine lv_goto (tgt := 98) hx hb dX5_walk_91 (by decide) ?_
                refine lv_eqi (y := nI (plc i f t)) (by first | rw [plc, if_pos (by omega)] | rw [plc, if_neg (by omega)]) ?_
                refine lv_istore (lv' := [(6, .int (nI (plc i f t))), (0, .ref h), (1, .int (nI w)), (2, .int (nI f)), (3, .int (nI t)), (4, .int (nI (zAl (m_z M) w f t))), (5, .int (nI i))]) hx hb dX5_walk_98 hl (by decide) rfl (fun ls hl => ?_)
                refine lv_aload_n hx hb dX5_walk_100 rfl (lv_at hl 1 rfl) ?_
                refine lv_iload hx hb dX5_walk_101 (lv_at hl 0 rfl) ?_
                refine lv_iconst (v := nI 4) hx hb dX5_walk_103 (by decide) ?_
                refine lv_aload_n hx hb dX5_walk_104 rfl (lv_at hl 1 rfl) ?_
                refine lv_iload hx hb dX5_walk_105 (lv_at hl 0 rfl) ?_
                refine lv_iconst (v := nI 4) hx hb dX5_walk_107 (by decide) ?_
                refine goIw (va_runV (As := [.int (nI (plc i f t)), .int (nI 4)]) (rest := [.int (nI 4), .int (nI (plc i f t)), .ref h]) ⟨hx, hb, hml, hown, hts⟩ (CtI.use (c_X5_of l G ca h a (zWk (m_z M) w f t i, recP ((m_past M)) ((m_z M)) k6 n820, nI (recN k6), m_slots M, m_isSaved M, m_pad M, m_typed M, m_spot M, m_told M, m_toldMany M) (plc i f t) 4 (plc_lt _ _ _ (by omega) (by omega) (by omega)) (by omega)) H.size) (cwV 2 hts gX5_walk_X5_of rfl rfl rfl (by decide +kernel) ⟨Nat.le_of_ble_eq_true rfl, Nat.le_of_ble_eq_true rfl⟩) (pcW_V hev hP hD (q0 := 0) rfl rfl rfl) rfl rfl hl.1 rfl (lv_room (Nat.le_of_ble_eq_true rfl)) dX5_walk_108 ⟨Nat.zero_le _, Nat.zero_le _⟩) hD hS hA moF (fun H locs hP hD hS => ?_)
                refine lv_eqi (y := (zWk (m_z M) w f t i) (8 + 5 * (plc i f t) + 4)) rfl ?_
                refine lv_iconst (v := 1) hx hb dX5_walk_111 (by decide) ?_
                refine lv_iadd hx hb dX5_walk_112 ?_
                refine goVw (va_runV (As := [.int (nI (plc i f t)), .int (nI 4), .int (((zWk (m_z M) w f t i) (8 + 5 * (plc i f t) + 4)) + 1)]) (rest := []) ⟨hx, hb, hml, hown, hts⟩ (CtV.use (c_X5_lay l G ca h a (zWk (m_z M) w f t i, recP ((m_past M)) ((m_z M)) k6 n820, nI (recN k6), m_slots M, m_isSaved M, m_pad M, m_typed M, m_spot M, m_told M, m_toldMany M) (plc i f t) 4 (((zWk (m_z M) w f t i) (8 + 5 * (plc i f t) + 4)) + 1) (plc_lt _ _ _ (by omega) (by omega) (by omega)) (by omega)) H.size) (cwV 3 hts gX5_walk_X5_lay rfl rfl rfl (by decide +kernel) ⟨Nat.le_of_ble_eq_true rfl, Nat.le_of_ble_eq_true rfl⟩) (pcW_V hev hP hD (q0 := 0) rfl rfl rfl) rfl rfl hl.1 rfl (lv_room (Nat.le_of_ble_eq_true rfl)) dX5_walk_113 ⟨Nat.zero_le _, Nat.zero_le _⟩) hD hS hA moF (fun H locs hP hD hS => ?_)
                refine lv_iinc (v := nI (i + 1)) (lv' := [(5, .int (nI (i + 1))), (6, .int (nI (plc i f t))), (0, .ref h), (1, .int (nI w)), (2, .int (nI f)), (3, .int (nI t)), (4, .int (nI (zAl (m_z M) w f t)))]) hx hb dX5_walk_116 hl (k := 6) rfl (nI_1 _) (by decide) rfl (fun ls hl => ?_)
                refine lv_goto (tgt := 75) hx hb dX5_walk_119 (by decide) ?_
                exact ih (i + 1) (by omega) _ _ _ (by rw [show (zWk (m_z M) w f t (i + 1)) = (upd ((zWk (m_z M) w f t i)) (8 + 5 * (plc i f t) + 4) (((zWk (m_z M) w f t i) (8 + 5 * (plc i f t) + 4)) + 1)) from by rfl]; exact hP) (D_of hD moF) hS (lv_sub hl [2, 3, 4, 5, 6, 0] rfl)
        exact loop_75 (zAl (m_z M) w f t) 0 (by omega) _ _ _ (by rw [show (zWk (m_z M) w f t 0) = (upd ((upd ((m_z M)) (68 + 4 * w + 1) (((m_z M) (68 + 4 * w + 1)) + (smD (fun k => zDu (m_z M) (plc k f t)) (zAl (m_z M) w f t))))) (68 + 4 * w + 3) (((upd (m_z M) (68 + 4 * w + 1) (((m_z M) (68 + 4 * w + 1)) + (smD (fun k => zDu (m_z M) (plc k f t)) (zAl (m_z M) w f t)))) (68 + 4 * w + 3)) + (nI (zAl (m_z M) w f t)))) from by rfl]; exact hP) (D_of hD moF) hS (lv_sub hl [2, 3, 4, 5, 1, 0] rfl)
      · skip
        exact absurd c_3 (by decide)
set_option maxHeartbeats 4000000 in
set_option maxRecDepth 100000 in
theorem c_X5_cost_outw (l : Launch) (G : va_G) (ca : Nat → ClassId) (h : Nat) (a : Nat → Nat) (M : MM) (x : Int32) (v : Int32) (y : Int32) (u : Int32) (hx0 : x < 0 ∨ nI 6 ≤ x) : CtI l yX5_cost wsX5_cost ({ frames := 2, cells := 0, slots := 0, locals := 42 }) [.ref h, .int x, .int v, .int y, .int u] G ca (moT ca h a M) (moT ca h a M) (-1) := by
  refine CtI.ofW (cc := cX5_cost) (maxL := 5) (rt := .int) (by decide) rfl (Nat.le_of_ble_eq_true rfl) rfl ?_
  intro pr en s m be me c A ls Q H hx hb hml hts hown hev hP hD hA hS hl hret
  have hown : s.vm.findClass RX5 = some m.cls := hown
  have hl : lv_has ls 5 [(0, .ref h), (1, .int x), (2, .int v), (3, .int y), (4, .int u)] := hl
  have in_wsX50 : ∀ w ∈ wsX50, w ∈ wsX5_cost := fun _ h => List.mem_cons_of_mem _ (List.mem_append_right _ h)
  refine lv_iload_n hx hb dX5_cost_0 rfl (lv_at hl 1 rfl) ?_
  refine goI0 (va_runS (As := [.int x]) (rest := []) ⟨hx, hb, hml, hown, hts⟩ (CtI.use (c_X5_isWalker l G ca x) H.size) (va_cwS 1 hts gX5_cost_X5_isWalker rfl rfl rfl (by decide +kernel) ⟨Nat.le_of_ble_eq_true rfl, Nat.le_of_ble_eq_true rfl⟩) (pcW_S hev P_nil (D_nil (A := A))) rfl rfl hl.1 rfl (lv_room (Nat.le_of_ble_eq_true rfl)) dX5_cost_1 ⟨Nat.zero_le _, Nat.zero_le _⟩) hP hS hA (fun H locs hP hS => ?_)
  refine lv_eqi (y := 0) (by exact inC_wo hx0) ?_
  refine lv_if_eq (tgt := 21) hx hb dX5_cost_4 (by decide) (fun c_1 => ?_) (fun c_1 => ?_)
  · skip
    refine lv_iconst (v := (-1)) hx hb dX5_cost_21 (by decide) ?_
    exact hret _ _ _ _ hP hS dX5_cost_22
  · skip
    exact absurd (by decide) c_1
set_option maxHeartbeats 4000000 in
set_option maxRecDepth 100000 in
theorem c_X5_cost_outf (l : Launch) (G : va_G) (ca : Nat → ClassId) (h : Nat) (a : Nat → Nat) (M : MM) (w : Nat) (x : Int32) (y : Int32) (u : Int32) (hw : w < 6) (hx0 : x < 0 ∨ nI 12 ≤ x) : CtI l yX5_cost wsX5_cost ({ frames := 2, cells := 0, slots := 0, locals := 42 }) [.ref h, .int (nI w), .int x, .int y, .int u] G ca (moT ca h a M) (moT ca h a M) (-1) := by
  refine CtI.ofW (cc := cX5_cost) (maxL := 5) (rt := .int) (by decide) rfl (Nat.le_of_ble_eq_true rfl) rfl ?_
  intro pr en s m be me c A ls Q H hx hb hml hts hown hev hP hD hA hS hl hret
  have hown : s.vm.findClass RX5 = some m.cls := hown
  have hl : lv_has ls 5 [(0, .ref h), (1, .int (nI w)), (2, .int x), (3, .int y), (4, .int u)] := hl
  have in_wsX50 : ∀ w ∈ wsX50, w ∈ wsX5_cost := fun _ h => List.mem_cons_of_mem _ (List.mem_append_right _ h)
  refine lv_iload_n hx hb dX5_cost_0 rfl (lv_at hl 1 rfl) ?_
  refine goI0 (va_runS (As := [.int (nI w)]) (rest := []) ⟨hx, hb, hml, hown, hts⟩ (CtI.use (c_X5_isWalker l G ca (nI w)) H.size) (va_cwS 1 hts gX5_cost_X5_isWalker rfl rfl rfl (by decide +kernel) ⟨Nat.le_of_ble_eq_true rfl, Nat.le_of_ble_eq_true rfl⟩) (pcW_S hev P_nil (D_nil (A := A))) rfl rfl hl.1 rfl (lv_room (Nat.le_of_ble_eq_true rfl)) dX5_cost_1 ⟨Nat.zero_le _, Nat.zero_le _⟩) hP hS hA (fun H locs hP hS => ?_)
  refine lv_eqi (y := 1) (by exact inC_w (by omega)) ?_
  refine lv_if_eq (tgt := 21) hx hb dX5_cost_4 (by decide) (fun c_1 => ?_) (fun c_1 => ?_)
  · skip
    exact absurd c_1 (by decide)
  · skip
    refine lv_iload_n hx hb dX5_cost_7 rfl (lv_at hl 2 rfl) ?_
    refine goI0 (va_runS (As := [.int x]) (rest := []) ⟨hx, hb, hml, hown, hts⟩ (CtI.use (c_X5_isPuddle l G ca x) H.size) (va_cwS 1 hts gX5_cost_X5_isPuddle rfl rfl rfl (by decide +kernel) ⟨Nat.le_of_ble_eq_true rfl, Nat.le_of_ble_eq_true rfl⟩) (pcW_S hev P_nil (D_nil (A := A))) rfl rfl hl.1 rfl (lv_room (Nat.le_of_ble_eq_true rfl)) dX5_cost_8 ⟨Nat.zero_le _, Nat.zero_le _⟩) hP hS hA (fun H locs hP hS => ?_)
    refine lv_eqi (y := 0) (by exact inC_po hx0) ?_
    refine lv_if_eq (tgt := 21) hx hb dX5_cost_11 (by decide) (fun c_2 => ?_) (fun c_2 => ?_)
    · skip
      refine lv_iconst (v := (-1)) hx hb dX5_cost_21 (by decide) ?_
      exact hret _ _ _ _ hP hS dX5_cost_22
    · skip
      exact absurd (by decide) c_2
set_option maxHeartbeats 4000000 in
set_option maxRecDepth 100000 in
theorem c_X5_cost_outt (l : Launch) (G : va_G) (ca : Nat → ClassId) (h : Nat) (a : Nat → Nat) (M : MM) (w : Nat) (f : Nat) (x : Int32) (u : Int32) (hw : w < 6) (hf : f < 12) (hx0 : x < 0 ∨ nI 12 ≤ x) : CtI l yX5_cost wsX5_cost ({ frames := 2, cells := 0, slots := 0, locals := 42 }) [.ref h, .int (nI w), .int (nI f), .int x, .int u] G ca (moT ca h a M) (moT ca h a M) (-1) := by
  refine CtI.ofW (cc := cX5_cost) (maxL := 5) (rt := .int) (by decide) rfl (Nat.le_of_ble_eq_true rfl) rfl ?_
  intro pr en s m be me c A ls Q H hx hb hml hts hown hev hP hD hA hS hl hret
  have hown : s.vm.findClass RX5 = some m.cls := hown
  have hl : lv_has ls 5 [(0, .ref h), (1, .int (nI w)), (2, .int (nI f)), (3, .int x), (4, .int u)] := hl
  have in_wsX50 : ∀ w ∈ wsX50, w ∈ wsX5_cost := fun _ h => List.mem_cons_of_mem _ (List.mem_append_right _ h)
  refine lv_iload_n hx hb dX5_cost_0 rfl (lv_at hl 1 rfl) ?_
  refine goI0 (va_runS (As := [.int (nI w)]) (rest := []) ⟨hx, hb, hml, hown, hts⟩ (CtI.use (c_X5_isWalker l G ca (nI w)) H.size) (va_cwS 1 hts gX5_cost_X5_isWalker rfl rfl rfl (by decide +kernel) ⟨Nat.le_of_ble_eq_true rfl, Nat.le_of_ble_eq_true rfl⟩) (pcW_S hev P_nil (D_nil (A := A))) rfl rfl hl.1 rfl (lv_room (Nat.le_of_ble_eq_true rfl)) dX5_cost_1 ⟨Nat.zero_le _, Nat.zero_le _⟩) hP hS hA (fun H locs hP hS => ?_)
  refine lv_eqi (y := 1) (by exact inC_w (by omega)) ?_
  refine lv_if_eq (tgt := 21) hx hb dX5_cost_4 (by decide) (fun c_1 => ?_) (fun c_1 => ?_)
  · skip
    exact absurd c_1 (by decide)
  · skip
    refine lv_iload_n hx hb dX5_cost_7 rfl (lv_at hl 2 rfl) ?_
    refine goI0 (va_runS (As := [.int (nI f)]) (rest := []) ⟨hx, hb, hml, hown, hts⟩ (CtI.use (c_X5_isPuddle l G ca (nI f)) H.size) (va_cwS 1 hts gX5_cost_X5_isPuddle rfl rfl rfl (by decide +kernel) ⟨Nat.le_of_ble_eq_true rfl, Nat.le_of_ble_eq_true rfl⟩) (pcW_S hev P_nil (D_nil (A := A))) rfl rfl hl.1 rfl (lv_room (Nat.le_of_ble_eq_true rfl)) dX5_cost_8 ⟨Nat.zero_le _, Nat.zero_le _⟩) hP hS hA (fun H locs hP hS => ?_)
    refine lv_eqi (y := 1) (by exact inC_p (by omega)) ?_
    refine lv_if_eq (tgt := 21) hx hb dX5_cost_11 (by decide) (fun c_2 => ?_) (fun c_2 => ?_)
    · skip
      exact absurd c_2 (by decide)
    · skip
      refine lv_iload_n hx hb dX5_cost_14 rfl (lv_at hl 3 rfl) ?_
      refine goI0 (va_runS (As := [.int x]) (rest := []) ⟨hx, hb, hml, hown, hts⟩ (CtI.use (c_X5_isPuddle l G ca x) H.size) (va_cwS 1 hts gX5_cost_X5_isPuddle rfl rfl rfl (by decide +kernel) ⟨Nat.le_of_ble_eq_true rfl, Nat.le_of_ble_eq_true rfl⟩) (pcW_S hev P_nil (D_nil (A := A))) rfl rfl hl.1 rfl (lv_room (Nat.le_of_ble_eq_true rfl)) dX5_cost_15 ⟨Nat.zero_le _, Nat.zero_le _⟩) hP hS hA (fun H locs hP hS => ?_)
      refine lv_eqi (y := 0) (by exact inC_po hx0) ?_
      refine lv_if_ne (tgt := 23) hx hb dX5_cost_18 (by decide) (fun c_3 => ?_) (fun c_3 => ?_)
      · skip
        exact absurd (by decide) c_3
      · skip
        refine lv_iconst (v := (-1)) hx hb dX5_cost_21 (by decide) ?_
        exact hret _ _ _ _ hP hS dX5_cost_22
set_option maxHeartbeats 4000000 in
set_option maxRecDepth 100000 in
theorem c_X5_cost_0 (l : Launch) (G : va_G) (ca : Nat → ClassId) (h : Nat) (a : Nat → Nat) (M : MM) (w : Nat) (f : Nat) (t : Nat) (hw : w < 6) (hf : f < 12) (ht : t < 12) : CtI l yX5_cost wsX5_cost ({ frames := 5, cells := 0, slots := 0, locals := 115 }) [.ref h, .int (nI w), .int (nI f), .int (nI t), .int 0] G ca (moT ca h a M) (moT ca h a M) (smD (fun k => zDu (m_z M) (plc k f t)) (zAl (m_z M) w f t)) := by
  refine CtI.ofW (cc := cX5_cost) (maxL := 5) (rt := .int) (by decide) rfl (Nat.le_of_ble_eq_true rfl) rfl ?_
  intro pr en s m be me c A ls Q H hx hb hml hts hown hev hP hD hA hS hl hret
  have hown : s.vm.findClass RX5 = some m.cls := hown
  have hl : lv_has ls 5 [(0, .ref h), (1, .int (nI w)), (2, .int (nI f)), (3, .int (nI t)), (4, .int 0)] := hl
  have in_wsX50 : ∀ w ∈ wsX50, w ∈ wsX5_cost := fun _ h => List.mem_cons_of_mem _ (List.mem_append_right _ h)
  have hst2 := zAl_le (m_z M) w f t
  refine lv_iload_n hx hb dX5_cost_0 rfl (lv_at hl 1 rfl) ?_
  refine goI0 (va_runS (As := [.int (nI w)]) (rest := []) ⟨hx, hb, hml, hown, hts⟩ (CtI.use (c_X5_isWalker l G ca (nI w)) H.size) (va_cwS 1 hts gX5_cost_X5_isWalker rfl rfl rfl (by decide +kernel) ⟨Nat.le_of_ble_eq_true rfl, Nat.le_of_ble_eq_true rfl⟩) (pcW_S hev P_nil (D_nil (A := A))) rfl rfl hl.1 rfl (lv_room (Nat.le_of_ble_eq_true rfl)) dX5_cost_1 ⟨Nat.zero_le _, Nat.zero_le _⟩) hP hS hA (fun H locs hP hS => ?_)
  refine lv_eqi (y := 1) (by exact inC_w (by omega)) ?_
  refine lv_if_eq (tgt := 21) hx hb dX5_cost_4 (by decide) (fun c_1 => ?_) (fun c_1 => ?_)
  · skip
    exact absurd c_1 (by decide)
  · skip
    refine lv_iload_n hx hb dX5_cost_7 rfl (lv_at hl 2 rfl) ?_
    refine goI0 (va_runS (As := [.int (nI f)]) (rest := []) ⟨hx, hb, hml, hown, hts⟩ (CtI.use (c_X5_isPuddle l G ca (nI f)) H.size) (va_cwS 1 hts gX5_cost_X5_isPuddle rfl rfl rfl (by decide +kernel) ⟨Nat.le_of_ble_eq_true rfl, Nat.le_of_ble_eq_true rfl⟩) (pcW_S hev P_nil (D_nil (A := A))) rfl rfl hl.1 rfl (lv_room (Nat.le_of_ble_eq_true rfl)) dX5_cost_8 ⟨Nat.zero_le _, Nat.zero_le _⟩) hP hS hA (fun H locs hP hS => ?_)
    refine lv_eqi (y := 1) (by exact inC_p (by omega)) ?_
    refine lv_if_eq (tgt := 21) hx hb dX5_cost_11 (by decide) (fun c_2 => ?_) (fun c_2 => ?_)
    · skip
      exact absurd c_2 (by decide)
    · skip
      refine lv_iload_n hx hb dX5_cost_14 rfl (lv_at hl 3 rfl) ?_
      refine goI0 (va_runS (As := [.int (nI t)]) (rest := []) ⟨hx, hb, hml, hown, hts⟩ (CtI.use (c_X5_isPuddle l G ca (nI t)) H.size) (va_cwS 1 hts gX5_cost_X5_isPuddle rfl rfl rfl (by decide +kernel) ⟨Nat.le_of_ble_eq_true rfl, Nat.le_of_ble_eq_true rfl⟩) (pcW_S hev P_nil (D_nil (A := A))) rfl rfl hl.1 rfl (lv_room (Nat.le_of_ble_eq_true rfl)) dX5_cost_15 ⟨Nat.zero_le _, Nat.zero_le _⟩) hP hS hA (fun H locs hP hS => ?_)
      refine lv_eqi (y := 1) (by exact inC_p (by omega)) ?_
      refine lv_if_ne (tgt := 23) hx hb dX5_cost_18 (by decide) (fun c_3 => ?_) (fun c_3 => ?_)
      · skip
        refine lv_iload hx hb dX5_cost_23 (lv_at hl 4 rfl) ?_
        refine lv_iconst (v := 0) hx hb dX5_cost_25 (by decide) ?_
        refine lv_iconst (v := 1) hx hb dX5_cost_26 (by decide) ?_
        refine goI0 (va_runS (As := [.int 0, .int 0, .int 1]) (rest := []) ⟨hx, hb, hml, hown, hts⟩ (CtI.use (c_X5_in l G ca 0 0 1) H.size) (va_cwS 3 hts gX5_cost_X5_in rfl rfl rfl (by decide +kernel) ⟨Nat.le_of_ble_eq_true rfl, Nat.le_of_ble_eq_true rfl⟩) (pcW_S hev P_nil (D_nil (A := A))) rfl rfl hl.1 rfl (lv_room (Nat.le_of_ble_eq_true rfl)) dX5_cost_27 ⟨Nat.zero_le _, Nat.zero_le _⟩) hP hS hA (fun H locs hP hS => ?_)
        refine lv_eqi (y := 1) (by decide) ?_
        refine lv_if_eq (tgt := 49) hx hb dX5_cost_30 (by decide) (fun c_4 => ?_) (fun c_4 => ?_)
        · skip
          exact absurd c_4 (by decide)
        · skip
          refine lv_aload_n hx hb dX5_cost_33 rfl (lv_at hl 0 rfl) ?_
          refine lv_iload_n hx hb dX5_cost_34 rfl (lv_at hl 2 rfl) ?_
          refine lv_iload_n hx hb dX5_cost_35 rfl (lv_at hl 3 rfl) ?_
          refine lv_aload_n hx hb dX5_cost_36 rfl (lv_at hl 0 rfl) ?_
          refine lv_iload_n hx hb dX5_cost_37 rfl (lv_at hl 1 rfl) ?_
          refine lv_iload_n hx hb dX5_cost_38 rfl (lv_at hl 2 rfl) ?_
          refine lv_iload_n hx hb dX5_cost_39 rfl (lv_at hl 3 rfl) ?_
          refine goIw (va_runV (As := [.int (nI w), .int (nI f), .int (nI t)]) (rest := [.int (nI t), .int (nI f), .ref h]) ⟨hx, hb, hml, hown, hts⟩ (CtI.use (c_X5_allowed l G ca h a M w f t (by omega) (by omega) (by omega)) H.size) (cwV 3 hts gX5_cost_X5_allowed rfl rfl rfl (by decide +kernel) ⟨Nat.le_of_ble_eq_true rfl, Nat.le_of_ble_eq_true rfl⟩) (pcW_V hev hP hD (q0 := 0) rfl rfl rfl) rfl rfl hl.1 rfl (lv_room (Nat.le_of_ble_eq_true rfl)) dX5_cost_40 ⟨Nat.zero_le _, Nat.zero_le _⟩) hD hS hA moF (fun H locs hP hD hS => ?_)
          refine goIw (va_runV (As := [.int (nI f), .int (nI t), .int (nI (zAl (m_z M) w f t))]) (rest := []) ⟨hx, hb, hml, hown, hts⟩ (CtI.use (c_X5_duties l G ca h a M f t (zAl (m_z M) w f t) (by omega) (by omega) (by omega)) H.size) (cwV 3 hts gX5_cost_X5_duties rfl rfl rfl (by decide +kernel) ⟨Nat.le_of_ble_eq_true rfl, Nat.le_of_ble_eq_true rfl⟩) (pcW_V hev hP hD (q0 := 0) rfl rfl rfl) rfl rfl hl.1 rfl (lv_room (Nat.le_of_ble_eq_true rfl)) dX5_cost_43 ⟨Nat.zero_le _, Nat.zero_le _⟩) hD hS hA moF (fun H locs hP hD hS => ?_)
          refine lv_goto (tgt := 51) hx hb dX5_cost_46 (by decide) ?_
          exact hret _ _ _ _ hP hS dX5_cost_51
      · skip
        exact absurd c_3 (by decide)
set_option maxHeartbeats 4000000 in
set_option maxRecDepth 100000 in
theorem c_X5_cost_1 (l : Launch) (G : va_G) (ca : Nat → ClassId) (h : Nat) (a : Nat → Nat) (M : MM) (w : Nat) (f : Nat) (t : Nat) (hw : w < 6) (hf : f < 12) (ht : t < 12) : CtI l yX5_cost wsX5_cost ({ frames := 5, cells := 0, slots := 0, locals := 115 }) [.ref h, .int (nI w), .int (nI f), .int (nI t), .int 1] G ca (moT ca h a M) (moT ca h a M) (smD (fun k => zDu (m_z M) (plc k f t)) (zAl (m_z M) w f t)) := by
  refine CtI.ofW (cc := cX5_cost) (maxL := 5) (rt := .int) (by decide) rfl (Nat.le_of_ble_eq_true rfl) rfl ?_
  intro pr en s m be me c A ls Q H hx hb hml hts hown hev hP hD hA hS hl hret
  have hown : s.vm.findClass RX5 = some m.cls := hown
  have hl : lv_has ls 5 [(0, .ref h), (1, .int (nI w)), (2, .int (nI f)), (3, .int (nI t)), (4, .int 1)] := hl
  have in_wsX50 : ∀ w ∈ wsX50, w ∈ wsX5_cost := fun _ h => List.mem_cons_of_mem _ (List.mem_append_right _ h)
  have hst2 := zAl_le (m_z M) w f t
  refine lv_iload_n hx hb dX5_cost_0 rfl (lv_at hl 1 rfl) ?_
  refine goI0 (va_runS (As := [.int (nI w)]) (rest := []) ⟨hx, hb, hml, hown, hts⟩ (CtI.use (c_X5_isWalker l G ca (nI w)) H.size) (va_cwS 1 hts gX5_cost_X5_isWalker rfl rfl rfl (by decide +kernel) ⟨Nat.le_of_ble_eq_true rfl, Nat.le_of_ble_eq_true rfl⟩) (pcW_S hev P_nil (D_nil (A := A))) rfl rfl hl.1 rfl (lv_room (Nat.le_of_ble_eq_true rfl)) dX5_cost_1 ⟨Nat.zero_le _, Nat.zero_le _⟩) hP hS hA (fun H locs hP hS => ?_)
  refine lv_eqi (y := 1) (by exact inC_w (by omega)) ?_
  refine lv_if_eq (tgt := 21) hx hb dX5_cost_4 (by decide) (fun c_1 => ?_) (fun c_1 => ?_)
  · skip
    exact absurd c_1 (by decide)
  · skip
    refine lv_iload_n hx hb dX5_cost_7 rfl (lv_at hl 2 rfl) ?_
    refine goI0 (va_runS (As := [.int (nI f)]) (rest := []) ⟨hx, hb, hml, hown, hts⟩ (CtI.use (c_X5_isPuddle l G ca (nI f)) H.size) (va_cwS 1 hts gX5_cost_X5_isPuddle rfl rfl rfl (by decide +kernel) ⟨Nat.le_of_ble_eq_true rfl, Nat.le_of_ble_eq_true rfl⟩) (pcW_S hev P_nil (D_nil (A := A))) rfl rfl hl.1 rfl (lv_room (Nat.le_of_ble_eq_true rfl)) dX5_cost_8 ⟨Nat.zero_le _, Nat.zero_le _⟩) hP hS hA (fun H locs hP hS => ?_)
    refine lv_eqi (y := 1) (by exact inC_p (by omega)) ?_
    refine lv_if_eq (tgt := 21) hx hb dX5_cost_11 (by decide) (fun c_2 => ?_) (fun c_2 => ?_)
    · skip
      exact absurd c_2 (by decide)
    · skip
      refine lv_iload_n hx hb dX5_cost_14 rfl (lv_at hl 3 rfl) ?_
      refine goI0 (va_runS (As := [.int (nI t)]) (rest := []) ⟨hx, hb, hml, hown, hts⟩ (CtI.use (c_X5_isPuddle l G ca (nI t)) H.size) (va_cwS 1 hts gX5_cost_X5_isPuddle rfl rfl rfl (by decide +kernel) ⟨Nat.le_of_ble_eq_true rfl, Nat.le_of_ble_eq_true rfl⟩) (pcW_S hev P_nil (D_nil (A := A))) rfl rfl hl.1 rfl (lv_room (Nat.le_of_ble_eq_true rfl)) dX5_cost_15 ⟨Nat.zero_le _, Nat.zero_le _⟩) hP hS hA (fun H locs hP hS => ?_)
      refine lv_eqi (y := 1) (by exact inC_p (by omega)) ?_
      refine lv_if_ne (tgt := 23) hx hb dX5_cost_18 (by decide) (fun c_3 => ?_) (fun c_3 => ?_)
      · skip
        refine lv_iload hx hb dX5_cost_23 (lv_at hl 4 rfl) ?_
        refine lv_iconst (v := 0) hx hb dX5_cost_25 (by decide) ?_
        refine lv_iconst (v := 1) hx hb dX5_cost_26 (by decide) ?_
        refine goI0 (va_runS (As := [.int 1, .int 0, .int 1]) (rest := []) ⟨hx, hb, hml, hown, hts⟩ (CtI.use (c_X5_in l G ca 1 0 1) H.size) (va_cwS 3 hts gX5_cost_X5_in rfl rfl rfl (by decide +kernel) ⟨Nat.le_of_ble_eq_true rfl, Nat.le_of_ble_eq_true rfl⟩) (pcW_S hev P_nil (D_nil (A := A))) rfl rfl hl.1 rfl (lv_room (Nat.le_of_ble_eq_true rfl)) dX5_cost_27 ⟨Nat.zero_le _, Nat.zero_le _⟩) hP hS hA (fun H locs hP hS => ?_)
        refine lv_eqi (y := 1) (by decide) ?_
        refine lv_if_eq (tgt := 49) hx hb dX5_cost_30 (by decide) (fun c_4 => ?_) (fun c_4 => ?_)
        · skip
          exact absurd c_4 (by decide)
        · skip
          refine lv_aload_n hx hb dX5_cost_33 rfl (lv_at hl 0 rfl) ?_
          refine lv_iload_n hx hb dX5_cost_34 rfl (lv_at hl 2 rfl) ?_
          refine lv_iload_n hx hb dX5_cost_35 rfl (lv_at hl 3 rfl) ?_
          refine lv_aload_n hx hb dX5_cost_36 rfl (lv_at hl 0 rfl) ?_
          refine lv_iload_n hx hb dX5_cost_37 rfl (lv_at hl 1 rfl) ?_
          refine lv_iload_n hx hb dX5_cost_38 rfl (lv_at hl 2 rfl) ?_
          refine lv_iload_n hx hb dX5_cost_39 rfl (lv_at hl 3 rfl) ?_
          refine goIw (va_runV (As := [.int (nI w), .int (nI f), .int (nI t)]) (rest := [.int (nI t), .int (nI f), .ref h]) ⟨hx, hb, hml, hown, hts⟩ (CtI.use (c_X5_allowed l G ca h a M w f t (by omega) (by omega) (by omega)) H.size) (cwV 3 hts gX5_cost_X5_allowed rfl rfl rfl (by decide +kernel) ⟨Nat.le_of_ble_eq_true rfl, Nat.le_of_ble_eq_true rfl⟩) (pcW_V hev hP hD (q0 := 0) rfl rfl rfl) rfl rfl hl.1 rfl (lv_room (Nat.le_of_ble_eq_true rfl)) dX5_cost_40 ⟨Nat.zero_le _, Nat.zero_le _⟩) hD hS hA moF (fun H locs hP hD hS => ?_)
          refine goIw (va_runV (As := [.int (nI f), .int (nI t), .int (nI (zAl (m_z M) w f t))]) (rest := []) ⟨hx, hb, hml, hown, hts⟩ (CtI.use (c_X5_duties l G ca h a M f t (zAl (m_z M) w f t) (by omega) (by omega) (by omega)) H.size) (cwV 3 hts gX5_cost_X5_duties rfl rfl rfl (by decide +kernel) ⟨Nat.le_of_ble_eq_true rfl, Nat.le_of_ble_eq_true rfl⟩) (pcW_V hev hP hD (q0 := 0) rfl rfl rfl) rfl rfl hl.1 rfl (lv_room (Nat.le_of_ble_eq_true rfl)) dX5_cost_43 ⟨Nat.zero_le _, Nat.zero_le _⟩) hD hS hA moF (fun H locs hP hD hS => ?_)
          refine lv_goto (tgt := 51) hx hb dX5_cost_46 (by decide) ?_
          exact hret _ _ _ _ hP hS dX5_cost_51
      · skip
        exact absurd c_3 (by decide)
set_option maxHeartbeats 4000000 in
set_option maxRecDepth 100000 in
theorem c_X5_cost_bad (l : Launch) (G : va_G) (ca : Nat → ClassId) (h : Nat) (a : Nat → Nat) (M : MM) (w : Nat) (f : Nat) (t : Nat) (u : Int32) (hw : w < 6) (hf : f < 12) (ht : t < 12) (hu0 : ¬ u = 0) (hu1 : ¬ u = 1) : CtI l yX5_cost wsX5_cost ({ frames := 2, cells := 0, slots := 0, locals := 42 }) [.ref h, .int (nI w), .int (nI f), .int (nI t), .int u] G ca (moT ca h a M) (moT ca h a M) (-2) := by
  refine CtI.ofW (cc := cX5_cost) (maxL := 5) (rt := .int) (by decide) rfl (Nat.le_of_ble_eq_true rfl) rfl ?_
  intro pr en s m be me c A ls Q H hx hb hml hts hown hev hP hD hA hS hl hret
  have hown : s.vm.findClass RX5 = some m.cls := hown
  have hl : lv_has ls 5 [(0, .ref h), (1, .int (nI w)), (2, .int (nI f)), (3, .int (nI t)), (4, .int u)] := hl
  have in_wsX50 : ∀ w ∈ wsX50, w ∈ wsX5_cost := fun _ h => List.mem_cons_of_mem _ (List.mem_append_right _ h)
  refine lv_iload_n hx hb dX5_cost_0 rfl (lv_at hl 1 rfl) ?_
  refine goI0 (va_runS (As := [.int (nI w)]) (rest := []) ⟨hx, hb, hml, hown, hts⟩ (CtI.use (c_X5_isWalker l G ca (nI w)) H.size) (va_cwS 1 hts gX5_cost_X5_isWalker rfl rfl rfl (by decide +kernel) ⟨Nat.le_of_ble_eq_true rfl, Nat.le_of_ble_eq_true rfl⟩) (pcW_S hev P_nil (D_nil (A := A))) rfl rfl hl.1 rfl (lv_room (Nat.le_of_ble_eq_true rfl)) dX5_cost_1 ⟨Nat.zero_le _, Nat.zero_le _⟩) hP hS hA (fun H locs hP hS => ?_)
  refine lv_eqi (y := 1) (by exact inC_w (by omega)) ?_
  refine lv_if_eq (tgt := 21) hx hb dX5_cost_4 (by decide) (fun c_1 => ?_) (fun c_1 => ?_)
  · skip
    exact absurd c_1 (by decide)
  · skip
    refine lv_iload_n hx hb dX5_cost_7 rfl (lv_at hl 2 rfl) ?_
    refine goI0 (va_runS (As := [.int (nI f)]) (rest := []) ⟨hx, hb, hml, hown, hts⟩ (CtI.use (c_X5_isPuddle l G ca (nI f)) H.size) (va_cwS 1 hts gX5_cost_X5_isPuddle rfl rfl rfl (by decide +kernel) ⟨Nat.le_of_ble_eq_true rfl, Nat.le_of_ble_eq_true rfl⟩) (pcW_S hev P_nil (D_nil (A := A))) rfl rfl hl.1 rfl (lv_room (Nat.le_of_ble_eq_true rfl)) dX5_cost_8 ⟨Nat.zero_le _, Nat.zero_le _⟩) hP hS hA (fun H locs hP hS => ?_)
    refine lv_eqi (y := 1) (by exact inC_p (by omega)) ?_
    refine lv_if_eq (tgt := 21) hx hb dX5_cost_11 (by decide) (fun c_2 => ?_) (fun c_2 => ?_)
    · skip
      exact absurd c_2 (by decide)
    · skip
      refine lv_iload_n hx hb dX5_cost_14 rfl (lv_at hl 3 rfl) ?_
      refine goI0 (va_runS (As := [.int (nI t)]) (rest := []) ⟨hx, hb, hml, hown, hts⟩ (CtI.use (c_X5_isPuddle l G ca (nI t)) H.size) (va_cwS 1 hts gX5_cost_X5_isPuddle rfl rfl rfl (by decide +kernel) ⟨Nat.le_of_ble_eq_true rfl, Nat.le_of_ble_eq_true rfl⟩) (pcW_S hev P_nil (D_nil (A := A))) rfl rfl hl.1 rfl (lv_room (Nat.le_of_ble_eq_true rfl)) dX5_cost_15 ⟨Nat.zero_le _, Nat.zero_le _⟩) hP hS hA (fun H locs hP hS => ?_)
      refine lv_eqi (y := 1) (by exact inC_p (by omega)) ?_
      refine lv_if_ne (tgt := 23) hx hb dX5_cost_18 (by decide) (fun c_3 => ?_) (fun c_3 => ?_)
      · skip
        refine lv_iload hx hb dX5_cost_23 (lv_at hl 4 rfl) ?_
        refine lv_iconst (v := 0) hx hb dX5_cost_25 (by decide) ?_
        refine lv_iconst (v := 1) hx hb dX5_cost_26 (by decide) ?_
        refine goI0 (va_runS (As := [.int u, .int 0, .int 1]) (rest := []) ⟨hx, hb, hml, hown, hts⟩ (CtI.use (c_X5_in l G ca u 0 1) H.size) (va_cwS 3 hts gX5_cost_X5_in rfl rfl rfl (by decide +kernel) ⟨Nat.le_of_ble_eq_true rfl, Nat.le_of_ble_eq_true rfl⟩) (pcW_S hev P_nil (D_nil (A := A))) rfl rfl hl.1 rfl (lv_room (Nat.le_of_ble_eq_true rfl)) dX5_cost_27 ⟨Nat.zero_le _, Nat.zero_le _⟩) hP hS hA (fun H locs hP hS => ?_)
        refine lv_eqi (y := 0) (by exact inC_01 hu0 hu1) ?_
        refine lv_if_eq (tgt := 49) hx hb dX5_cost_30 (by decide) (fun c_4 => ?_) (fun c_4 => ?_)
        · skip
          refine lv_bipush (v := (-2)) hx hb dX5_cost_49 (by decide) ?_
          exact hret _ _ _ _ hP hS dX5_cost_51
        · skip
          exact absurd (by decide) c_4
      · skip
        exact absurd c_3 (by decide)
set_option maxHeartbeats 4000000 in
set_option maxRecDepth 100000 in
theorem c_X5_pass_out (l : Launch) (G : va_G) (ca : Nat → ClassId) (h : Nat) (a : Nat → Nat) (M : MM) (x : Int32) (hx0 : x < 0 ∨ ¬ x ≤ 11) : CtI l yX5_pass wsX5_pass ({ frames := 1, cells := 0, slots := 0, locals := 22 }) [.ref h, .int x] G ca (moT ca h a M) (moT ca h a M) (-2) := by
  refine CtI.ofW (cc := cX5_pass) (maxL := 2) (rt := .int) (by decide) rfl (Nat.le_of_ble_eq_true rfl) rfl ?_
  intro pr en s m be me c A ls Q H hx hb hml hts hown hev hP hD hA hS hl hret
  have hown : s.vm.findClass RX5 = some m.cls := hown
  have hl : lv_has ls 2 [(0, .ref h), (1, .int x)] := hl
  have in_wsX50 : ∀ w ∈ wsX50, w ∈ wsX5_pass := fun _ h => List.mem_cons_of_mem _ (List.mem_append_right _ h)
  refine lv_iload_n hx hb dX5_pass_0 rfl (lv_at hl 1 rfl) ?_
  refine lv_iconst (v := 0) hx hb dX5_pass_1 (by decide) ?_
  refine lv_bipush (v := 11) hx hb dX5_pass_2 (by decide) ?_
  refine goI0 (va_runS (As := [.int x, .int 0, .int 11]) (rest := []) ⟨hx, hb, hml, hown, hts⟩ (CtI.use (c_X5_in l G ca x 0 11) H.size) (va_cwS 3 hts gX5_pass_X5_in rfl rfl rfl (by decide +kernel) ⟨Nat.le_of_ble_eq_true rfl, Nat.le_of_ble_eq_true rfl⟩) (pcW_S hev P_nil (D_nil (A := A))) rfl rfl hl.1 rfl (lv_room (Nat.le_of_ble_eq_true rfl)) dX5_pass_4 ⟨Nat.zero_le _, Nat.zero_le _⟩) hP hS hA (fun H locs hP hS => ?_)
  refine lv_eqi (y := 0) (by exact inC_0 hx0) ?_
  refine lv_if_ne (tgt := 13) hx hb dX5_pass_7 (by decide) (fun c_1 => ?_) (fun c_1 => ?_)
  · skip
    exact absurd (by decide) c_1
  · skip
    refine lv_bipush (v := (-2)) hx hb dX5_pass_10 (by decide) ?_
    exact hret _ _ _ _ hP hS dX5_pass_12
set_option maxHeartbeats 4000000 in
set_option maxRecDepth 100000 in
theorem c_X5_pass_many (l : Launch) (G : va_G) (ca : Nat → ClassId) (h : Nat) (a : Nat → Nat) (M : MM) (hd : m_z M 4 = 9999) : CtI l yX5_pass wsX5_pass ({ frames := 1, cells := 0, slots := 0, locals := 22 }) [.ref h, .int 11] G ca (moT ca h a M) (moT ca h a M) (-4) := by
  refine CtI.ofW (cc := cX5_pass) (maxL := 2) (rt := .int) (by decide) rfl (Nat.le_of_ble_eq_true rfl) rfl ?_
  intro pr en s m be me c A ls Q H hx hb hml hts hown hev hP hD hA hS hl hret
  have hown : s.vm.findClass RX5 = some m.cls := hown
  have hl : lv_has ls 2 [(0, .ref h), (1, .int 11)] := hl
  have in_wsX50 : ∀ w ∈ wsX50, w ∈ wsX5_pass := fun _ h => List.mem_cons_of_mem _ (List.mem_append_right _ h)
  refine lv_iload_n hx hb dX5_pass_0 rfl (lv_at hl 1 rfl) ?_
  refine lv_iconst (v := 0) hx hb dX5_pass_1 (by decide) ?_
  refine lv_bipush (v := 11) hx hb dX5_pass_2 (by decide) ?_
  refine goI0 (va_runS (As := [.int 11, .int 0, .int 11]) (rest := []) ⟨hx, hb, hml, hown, hts⟩ (CtI.use (c_X5_in l G ca 11 0 11) H.size) (va_cwS 3 hts gX5_pass_X5_in rfl rfl rfl (by decide +kernel) ⟨Nat.le_of_ble_eq_true rfl, Nat.le_of_ble_eq_true rfl⟩) (pcW_S hev P_nil (D_nil (A := A))) rfl rfl hl.1 rfl (lv_room (Nat.le_of_ble_eq_true rfl)) dX5_pass_4 ⟨Nat.zero_le _, Nat.zero_le _⟩) hP hS hA (fun H locs hP hS => ?_)
  refine lv_eqi (y := 1) (by decide) ?_
  refine lv_if_ne (tgt := 13) hx hb dX5_pass_7 (by decide) (fun c_1 => ?_) (fun c_1 => ?_)
  · skip
    refine lv_iload_n hx hb dX5_pass_13 rfl (lv_at hl 1 rfl) ?_
    refine lv_bipush (v := 11) hx hb dX5_pass_14 (by decide) ?_
    refine lv_icmp_ne (tgt := 34) hx hb dX5_pass_16 (by decide) (fun c_2 => ?_) (fun c_2 => ?_)
    · skip
      exact absurd (by decide) c_2
    · skip
      refine lv_aload_n hx hb dX5_pass_19 rfl (lv_at hl 0 rfl) ?_
      refine va_get (D := G) (ci := 5) (v := .ref (a 0)) (C := RX5) (T := TX5) (N := 10) hx hb hts in_wsX50 hown hev.1 hP 0 rfl rfl 0 (by decide) (hts (.fieldLink RX5 7 "PuddleMinistriesModel" "z" "[I") (List.mem_of_getElem? (i := 1) rfl)) (fun _ h9 => h9) rfl dX5_pass_20 ?_
      refine lv_iconst (v := nI 4) hx hb dX5_pass_23 (by decide) ?_
      refine b_iald hx hb hev.1 hP 1 rfl rfl (j := 4) (by omega) (by decide) dX5_pass_24 ?_
      refine lv_sipush (v := 9999) hx hb dX5_pass_25 (by decide) ?_
      refine lv_icmp_ne (tgt := 34) hx hb dX5_pass_28 (by decide) (fun c_3 => ?_) (fun c_3 => ?_)
      · skip
        exact absurd hd c_3
      · skip
        refine lv_bipush (v := (-4)) hx hb dX5_pass_31 (by decide) ?_
        exact hret _ _ _ _ hP hS dX5_pass_33
  · skip
    exact absurd c_1 (by decide)
set_option maxHeartbeats 4000000 in
set_option maxRecDepth 100000 in
theorem c_X5_pass_ok (l : Launch) (G : va_G) (ca : Nat → ClassId) (h : Nat) (a : Nat → Nat) (M : MM) (x : Int32) (n12 : Nat) (n72 : Nat) (k6 : Nat) (n820 : Nat) (hst : m_states M = nI k6) (hk6 : k6 ≤ 6) (h820 : n820 = 820) (hx1 : ¬ x < 0) (hx2 : x ≤ 11) (hd : ¬ (x = 11 ∧ m_z M 4 = 9999)) (h12 : n12 = 12) (h72 : n72 = 72) : CtI l yX5_pass wsX5_pass ({ frames := 4, cells := 0, slots := 0, locals := 89 }) [.ref h, .int x] G ca (moT ca h a M) (moT ca h a (zLp x (m_z M) n12 n72, recP (m_past M) (m_z M) k6 n820, nI (recN k6), m_slots M, m_isSaved M, m_pad M, m_typed M, m_spot M, m_told M, m_toldMany M)) (smD (fun p => zLp x (m_z M) n12 n72 (8 + 5 * p + 1)) 12) := by
  refine CtI.ofW (cc := cX5_pass) (maxL := 2) (rt := .int) (by decide) rfl (Nat.le_of_ble_eq_true rfl) rfl ?_
  intro pr en s m be me c A ls Q H hx hb hml hts hown hev hP hD hA hS hl hret
  have hown : s.vm.findClass RX5 = some m.cls := hown
  have hl : lv_has ls 2 [(0, .ref h), (1, .int x)] := hl
  have in_wsX50 : ∀ w ∈ wsX50, w ∈ wsX5_pass := fun _ h => List.mem_cons_of_mem _ (List.mem_append_right _ h)
  refine lv_iload_n hx hb dX5_pass_0 rfl (lv_at hl 1 rfl) ?_
  refine lv_iconst (v := 0) hx hb dX5_pass_1 (by decide) ?_
  refine lv_bipush (v := 11) hx hb dX5_pass_2 (by decide) ?_
  refine goI0 (va_runS (As := [.int x, .int 0, .int 11]) (rest := []) ⟨hx, hb, hml, hown, hts⟩ (CtI.use (c_X5_in l G ca x 0 11) H.size) (va_cwS 3 hts gX5_pass_X5_in rfl rfl rfl (by decide +kernel) ⟨Nat.le_of_ble_eq_true rfl, Nat.le_of_ble_eq_true rfl⟩) (pcW_S hev P_nil (D_nil (A := A))) rfl rfl hl.1 rfl (lv_room (Nat.le_of_ble_eq_true rfl)) dX5_pass_4 ⟨Nat.zero_le _, Nat.zero_le _⟩) hP hS hA (fun H locs hP hS => ?_)
  refine lv_eqi (y := 1) (by exact inC_1 hx1 hx2) ?_
  refine lv_if_ne (tgt := 13) hx hb dX5_pass_7 (by decide) (fun c_1 => ?_) (fun c_1 => ?_)
  · skip
    refine lv_iload_n hx hb dX5_pass_13 rfl (lv_at hl 1 rfl) ?_
    refine lv_bipush (v := 11) hx hb dX5_pass_14 (by decide) ?_
    refine lv_icmp_ne (tgt := 34) hx hb dX5_pass_16 (by decide) (fun c_2 => ?_) (fun c_2 => ?_)
    · skip
      refine lv_aload_n hx hb dX5_pass_34 rfl (lv_at hl 0 rfl) ?_
      refine goVw (va_runV (As := []) (rest := []) ⟨hx, hb, hml, hown, hts⟩ (CtV.use (c_X5_record l G ca h a M k6 n820 hst hk6 h820) H.size) (cwV 0 hts gX5_pass_X5_record rfl rfl rfl (by decide +kernel) ⟨Nat.le_of_ble_eq_true rfl, Nat.le_of_ble_eq_true rfl⟩) (pcW_V hev hP hD (q0 := 0) rfl rfl rfl) rfl rfl hl.1 rfl (lv_room (Nat.le_of_ble_eq_true rfl)) dX5_pass_35 ⟨Nat.zero_le _, Nat.zero_le _⟩) hD hS hA moF (fun H locs hP hD hS => ?_)
      refine lv_aload_n hx hb dX5_pass_38 rfl (lv_at hl 0 rfl) ?_
      refine lv_iload_n hx hb dX5_pass_39 rfl (lv_at hl 1 rfl) ?_
      refine goVw (va_runV (As := [.int x]) (rest := []) ⟨hx, hb, hml, hown, hts⟩ (CtV.use (c_X5_passNow l G ca h a (m_z M, recP ((m_past M)) ((m_z M)) k6 n820, nI (recN k6), m_slots M, m_isSaved M, m_pad M, m_typed M, m_spot M, m_told M, m_toldMany M) x n12 n72 h12 h72) H.size) (cwV 1 hts gX5_pass_X5_passNow rfl rfl rfl (by decide +kernel) ⟨Nat.le_of_ble_eq_true rfl, Nat.le_of_ble_eq_true rfl⟩) (pcW_V hev hP hD (q0 := 0) rfl rfl rfl) rfl rfl hl.1 rfl (lv_room (Nat.le_of_ble_eq_true rfl)) dX5_pass_40 ⟨Nat.zero_le _, Nat.zero_le _⟩) hD hS hA moF (fun H locs hP hD hS => ?_)
      refine lv_aload_n hx hb dX5_pass_43 rfl (lv_at hl 0 rfl) ?_
      refine goIw (va_runV (As := []) (rest := []) ⟨hx, hb, hml, hown, hts⟩ (CtI.use (c_X5_water l G ca h a (zLp x ((m_z M)) n12 n72, recP ((m_past M)) ((m_z M)) k6 n820, nI (recN k6), m_slots M, m_isSaved M, m_pad M, m_typed M, m_spot M, m_told M, m_toldMany M)) H.size) (cwV 0 hts gX5_pass_X5_water rfl rfl rfl (by decide +kernel) ⟨Nat.le_of_ble_eq_true rfl, Nat.le_of_ble_eq_true rfl⟩) (pcW_V hev hP hD (q0 := 0) rfl rfl rfl) rfl rfl hl.1 rfl (lv_room (Nat.le_of_ble_eq_true rfl)) dX5_pass_44 ⟨Nat.zero_le _, Nat.zero_le _⟩) hD hS hA moF (fun H locs hP hD hS => ?_)
      refine lv_eqi (y := smD (fun p => (zLp x (m_z M) n12 n72) (8 + 5 * p + 1)) 12) rfl ?_
      refine lv_eqi (y := smD (fun p => zLp x (m_z M) n12 n72 (8 + 5 * p + 1)) 12) rfl ?_
      exact hret _ _ _ _ hP hS dX5_pass_47
    · skip
      refine lv_aload_n hx hb dX5_pass_19 rfl (lv_at hl 0 rfl) ?_
      refine va_get (D := G) (ci := 5) (v := .ref (a 0)) (C := RX5) (T := TX5) (N := 10) hx hb hts in_wsX50 hown hev.1 hP 0 rfl rfl 0 (by decide) (hts (.fieldLink RX5 7 "PuddleMinistriesModel" "z" "[I") (List.mem_of_getElem? (i := 1) rfl)) (fun _ h9 => h9) rfl dX5_pass_20 ?_
      refine lv_iconst (v := nI 4) hx hb dX5_pass_23 (by decide) ?_
      refine b_iald hx hb hev.1 hP 1 rfl rfl (j := 4) (by omega) (by decide) dX5_pass_24 ?_
      refine lv_sipush (v := 9999) hx hb dX5_pass_25 (by decide) ?_
      refine lv_icmp_ne (tgt := 34) hx hb dX5_pass_28 (by decide) (fun c_3 => ?_) (fun c_3 => ?_)
      · skip
        refine lv_aload_n hx hb dX5_pass_34 rfl (lv_at hl 0 rfl) ?_
        refine goVw (va_runV (As := []) (rest := []) ⟨hx, hb, hml, hown, hts⟩ (CtV.use (c_X5_record l G ca h a M k6 n820 hst hk6 h820) H.size) (cwV 0 hts gX5_pass_X5_record rfl rfl rfl (by decide +kernel) ⟨Nat.le_of_ble_eq_true rfl, Nat.le_of_ble_eq_true rfl⟩) (pcW_V hev hP hD (q0 := 0) rfl rfl rfl) rfl rfl hl.1 rfl (lv_room (Nat.le_of_ble_eq_true rfl)) dX5_pass_35 ⟨Nat.zero_le _, Nat.zero_le _⟩) hD hS hA moF (fun H locs hP hD hS => ?_)
        refine lv_aload_n hx hb dX5_pass_38 rfl (lv_at hl 0 rfl) ?_
        refine lv_iload_n hx hb dX5_pass_39 rfl (lv_at hl 1 rfl) ?_
        refine goVw (va_runV (As := [.int x]) (rest := []) ⟨hx, hb, hml, hown, hts⟩ (CtV.use (c_X5_passNow l G ca h a (m_z M, recP ((m_past M)) ((m_z M)) k6 n820, nI (recN k6), m_slots M, m_isSaved M, m_pad M, m_typed M, m_spot M, m_told M, m_toldMany M) x n12 n72 h12 h72) H.size) (cwV 1 hts gX5_pass_X5_passNow rfl rfl rfl (by decide +kernel) ⟨Nat.le_of_ble_eq_true rfl, Nat.le_of_ble_eq_true rfl⟩) (pcW_V hev hP hD (q0 := 0) rfl rfl rfl) rfl rfl hl.1 rfl (lv_room (Nat.le_of_ble_eq_true rfl)) dX5_pass_40 ⟨Nat.zero_le _, Nat.zero_le _⟩) hD hS hA moF (fun H locs hP hD hS => ?_)
        refine lv_aload_n hx hb dX5_pass_43 rfl (lv_at hl 0 rfl) ?_
        refine goIw (va_runV (As := []) (rest := []) ⟨hx, hb, hml, hown, hts⟩ (CtI.use (c_X5_water l G ca h a (zLp x ((m_z M)) n12 n72, recP ((m_past M)) ((m_z M)) k6 n820, nI (recN k6), m_slots M, m_isSaved M, m_pad M, m_typed M, m_spot M, m_told M, m_toldMany M)) H.size) (cwV 0 hts gX5_pass_X5_water rfl rfl rfl (by decide +kernel) ⟨Nat.le_of_ble_eq_true rfl, Nat.le_of_ble_eq_true rfl⟩) (pcW_V hev hP hD (q0 := 0) rfl rfl rfl) rfl rfl hl.1 rfl (lv_room (Nat.le_of_ble_eq_true rfl)) dX5_pass_44 ⟨Nat.zero_le _, Nat.zero_le _⟩) hD hS hA moF (fun H locs hP hD hS => ?_)
        refine lv_eqi (y := smD (fun p => (zLp x (m_z M) n12 n72) (8 + 5 * p + 1)) 12) rfl ?_
        refine lv_eqi (y := smD (fun p => zLp x (m_z M) n12 n72 (8 + 5 * p + 1)) 12) rfl ?_
        exact hret _ _ _ _ hP hS dX5_pass_47
      · skip
        exact absurd ⟨by assumption, c_3⟩ hd
  · skip
    exact absurd c_1 (by decide)
