set_option maxHeartbeats 4000000 in
set_option maxRecDepth 100000 in
theorem c_X5_puddle_out (l : Launch) (G : va_G) (ca : Nat → ClassId) (h : Nat) (a : Nat → Nat) (M : MM) (x : Int32) (v : Int32) (hx0 : x < 0 ∨ nI 12 ≤ x) : CtI l yX5_puddle wsX5_puddle ({ frames := 2, cells := 0, slots := 0, locals := 42 }) [.ref h, .int x, .int v] G ca (moT ca h a M) (moT ca h a M) (-1) := by
  refine CtI.ofW (cc := cX5_puddle) (maxL := 3) (rt := .int) (by decide) rfl (Nat.le_of_ble_eq_true rfl) rfl ?_
  intro pr en s m be me c A ls Q H hx hb hml hts hown hev hP hD hA hS hl hret
  have hown : s.vm.findClass RX5 = some m.cls := hown
  have hl : lv_has ls 3 [(0, .ref h), (1, .int x), (2, .int v)] := hl
  have in_wsX50 : ∀ w ∈ wsX50, w ∈ wsX5_puddle := fun _ h => List.mem_cons_of_mem _ (List.mem_append_right _ h)
  refine lv_iload_n hx hb dX5_puddle_0 rfl (lv_at hl 1 rfl) ?_
  refine goI0 (va_runS (As := [.int x]) (rest := []) ⟨hx, hb, hml, hown, hts⟩ (CtI.use (c_X5_isPuddle l G ca x) H.size) (va_cwS 1 hts gX5_puddle_X5_isPuddle rfl rfl rfl (by decide +kernel) ⟨Nat.le_of_ble_eq_true rfl, Nat.le_of_ble_eq_true rfl⟩) (pcW_S hev P_nil (D_nil (A := A))) rfl rfl hl.1 rfl (lv_room (Nat.le_of_ble_eq_true rfl)) dX5_puddle_1 ⟨Nat.zero_le _, Nat.zero_le _⟩) hP hS hA (fun H locs hP hS => ?_)
  refine lv_eqi (y := 0) (by exact inC_po hx0) ?_
  refine lv_if_ne (tgt := 9) hx hb dX5_puddle_4 (by decide) (fun c_1 => ?_) (fun c_1 => ?_)
  · skip
    exact absurd (by decide) c_1
  · skip
    refine lv_iconst (v := (-1)) hx hb dX5_puddle_7 (by decide) ?_
    exact hret _ _ _ _ hP hS dX5_puddle_8
set_option maxHeartbeats 4000000 in
set_option maxRecDepth 100000 in
theorem c_X5_puddle_0 (l : Launch) (G : va_G) (ca : Nat → ClassId) (h : Nat) (a : Nat → Nat) (M : MM) (p : Nat) (hp1 : p < 12) : CtI l yX5_puddle wsX5_puddle ({ frames := 2, cells := 0, slots := 0, locals := 42 }) [.ref h, .int (nI p), .int (nI 0)] G ca (moT ca h a M) (moT ca h a M) (m_z M (8 + 5 * p + 0)) := by
  refine CtI.ofW (cc := cX5_puddle) (maxL := 3) (rt := .int) (by decide) rfl (Nat.le_of_ble_eq_true rfl) rfl ?_
  intro pr en s m be me c A ls Q H hx hb hml hts hown hev hP hD hA hS hl hret
  have hown : s.vm.findClass RX5 = some m.cls := hown
  have hl : lv_has ls 3 [(0, .ref h), (1, .int (nI p)), (2, .int (nI 0))] := hl
  have in_wsX50 : ∀ w ∈ wsX50, w ∈ wsX5_puddle := fun _ h => List.mem_cons_of_mem _ (List.mem_append_right _ h)
  refine lv_iload_n hx hb dX5_puddle_0 rfl (lv_at hl 1 rfl) ?_
  refine goI0 (va_runS (As := [.int (nI p)]) (rest := []) ⟨hx, hb, hml, hown, hts⟩ (CtI.use (c_X5_isPuddle l G ca (nI p)) H.size) (va_cwS 1 hts gX5_puddle_X5_isPuddle rfl rfl rfl (by decide +kernel) ⟨Nat.le_of_ble_eq_true rfl, Nat.le_of_ble_eq_true rfl⟩) (pcW_S hev P_nil (D_nil (A := A))) rfl rfl hl.1 rfl (lv_room (Nat.le_of_ble_eq_true rfl)) dX5_puddle_1 ⟨Nat.zero_le _, Nat.zero_le _⟩) hP hS hA (fun H locs hP hS => ?_)
  refine lv_eqi (y := 1) (by exact inC_p (by omega)) ?_
  refine lv_if_ne (tgt := 9) hx hb dX5_puddle_4 (by decide) (fun c_1 => ?_) (fun c_1 => ?_)
  · skip
    refine lv_iload_n hx hb dX5_puddle_9 rfl (lv_at hl 2 rfl) ?_
    refine lv_tableIn (off := 42) (tgt := 52) hx hb dX5_puddle_10 (by decide) (by decide) (by decide +kernel) (by decide) ?_
    refine lv_aload_n hx hb dX5_puddle_52 rfl (lv_at hl 0 rfl) ?_
    refine lv_iload_n hx hb dX5_puddle_53 rfl (lv_at hl 1 rfl) ?_
    refine lv_iload_n hx hb dX5_puddle_54 rfl (lv_at hl 2 rfl) ?_
    refine goIw (va_runV (As := [.int (nI p), .int (nI 0)]) (rest := []) ⟨hx, hb, hml, hown, hts⟩ (CtI.use (c_X5_of l G ca h a M p 0 (by omega) (by omega)) H.size) (cwV 2 hts gX5_puddle_X5_of rfl rfl rfl (by decide +kernel) ⟨Nat.le_of_ble_eq_true rfl, Nat.le_of_ble_eq_true rfl⟩) (pcW_V hev hP hD (q0 := 0) rfl rfl rfl) rfl rfl hl.1 rfl (lv_room (Nat.le_of_ble_eq_true rfl)) dX5_puddle_55 ⟨Nat.zero_le _, Nat.zero_le _⟩) hD hS hA moF (fun H locs hP hD hS => ?_)
    refine lv_eqi (y := (m_z M) (8 + 5 * p + 0)) rfl ?_
    refine lv_eqi (y := m_z M (8 + 5 * p + 0)) rfl ?_
    exact hret _ _ _ _ hP hS dX5_puddle_58
  · skip
    exact absurd c_1 (by decide)
set_option maxHeartbeats 4000000 in
set_option maxRecDepth 100000 in
theorem c_X5_puddle_1 (l : Launch) (G : va_G) (ca : Nat → ClassId) (h : Nat) (a : Nat → Nat) (M : MM) (p : Nat) (hp1 : p < 12) : CtI l yX5_puddle wsX5_puddle ({ frames := 2, cells := 0, slots := 0, locals := 42 }) [.ref h, .int (nI p), .int (nI 1)] G ca (moT ca h a M) (moT ca h a M) (m_z M (8 + 5 * p + 1)) := by
  refine CtI.ofW (cc := cX5_puddle) (maxL := 3) (rt := .int) (by decide) rfl (Nat.le_of_ble_eq_true rfl) rfl ?_
  intro pr en s m be me c A ls Q H hx hb hml hts hown hev hP hD hA hS hl hret
  have hown : s.vm.findClass RX5 = some m.cls := hown
  have hl : lv_has ls 3 [(0, .ref h), (1, .int (nI p)), (2, .int (nI 1))] := hl
  have in_wsX50 : ∀ w ∈ wsX50, w ∈ wsX5_puddle := fun _ h => List.mem_cons_of_mem _ (List.mem_append_right _ h)
  refine lv_iload_n hx hb dX5_puddle_0 rfl (lv_at hl 1 rfl) ?_
  refine goI0 (va_runS (As := [.int (nI p)]) (rest := []) ⟨hx, hb, hml, hown, hts⟩ (CtI.use (c_X5_isPuddle l G ca (nI p)) H.size) (va_cwS 1 hts gX5_puddle_X5_isPuddle rfl rfl rfl (by decide +kernel) ⟨Nat.le_of_ble_eq_true rfl, Nat.le_of_ble_eq_true rfl⟩) (pcW_S hev P_nil (D_nil (A := A))) rfl rfl hl.1 rfl (lv_room (Nat.le_of_ble_eq_true rfl)) dX5_puddle_1 ⟨Nat.zero_le _, Nat.zero_le _⟩) hP hS hA (fun H locs hP hS => ?_)
  refine lv_eqi (y := 1) (by exact inC_p (by omega)) ?_
  refine lv_if_ne (tgt := 9) hx hb dX5_puddle_4 (by decide) (fun c_1 => ?_) (fun c_1 => ?_)
  · skip
    refine lv_iload_n hx hb dX5_puddle_9 rfl (lv_at hl 2 rfl) ?_
    refine lv_tableIn (off := 42) (tgt := 52) hx hb dX5_puddle_10 (by decide) (by decide) (by decide +kernel) (by decide) ?_
    refine lv_aload_n hx hb dX5_puddle_52 rfl (lv_at hl 0 rfl) ?_
    refine lv_iload_n hx hb dX5_puddle_53 rfl (lv_at hl 1 rfl) ?_
    refine lv_iload_n hx hb dX5_puddle_54 rfl (lv_at hl 2 rfl) ?_
    refine goIw (va_runV (As := [.int (nI p), .int (nI 1)]) (rest := []) ⟨hx, hb, hml, hown, hts⟩ (CtI.use (c_X5_of l G ca h a M p 1 (by omega) (by omega)) H.size) (cwV 2 hts gX5_puddle_X5_of rfl rfl rfl (by decide +kernel) ⟨Nat.le_of_ble_eq_true rfl, Nat.le_of_ble_eq_true rfl⟩) (pcW_V hev hP hD (q0 := 0) rfl rfl rfl) rfl rfl hl.1 rfl (lv_room (Nat.le_of_ble_eq_true rfl)) dX5_puddle_55 ⟨Nat.zero_le _, Nat.zero_le _⟩) hD hS hA moF (fun H locs hP hD hS => ?_)
    refine lv_eqi (y := (m_z M) (8 + 5 * p + 1)) rfl ?_
    refine lv_eqi (y := m_z M (8 + 5 * p + 1)) rfl ?_
    exact hret _ _ _ _ hP hS dX5_puddle_58
  · skip
    exact absurd c_1 (by decide)
set_option maxHeartbeats 4000000 in
set_option maxRecDepth 100000 in
theorem c_X5_puddle_2 (l : Launch) (G : va_G) (ca : Nat → ClassId) (h : Nat) (a : Nat → Nat) (M : MM) (p : Nat) (hp1 : p < 12) : CtI l yX5_puddle wsX5_puddle ({ frames := 2, cells := 0, slots := 0, locals := 43 }) [.ref h, .int (nI p), .int (nI 2)] G ca (moT ca h a M) (moT ca h a M) (m_z M (8 + 5 * p + 1) / 5) := by
  refine CtI.ofW (cc := cX5_puddle) (maxL := 3) (rt := .int) (by decide) rfl (Nat.le_of_ble_eq_true rfl) rfl ?_
  intro pr en s m be me c A ls Q H hx hb hml hts hown hev hP hD hA hS hl hret
  have hown : s.vm.findClass RX5 = some m.cls := hown
  have hl : lv_has ls 3 [(0, .ref h), (1, .int (nI p)), (2, .int (nI 2))] := hl
  have in_wsX50 : ∀ w ∈ wsX50, w ∈ wsX5_puddle := fun _ h => List.mem_cons_of_mem _ (List.mem_append_right _ h)
  refine lv_iload_n hx hb dX5_puddle_0 rfl (lv_at hl 1 rfl) ?_
  refine goI0 (va_runS (As := [.int (nI p)]) (rest := []) ⟨hx, hb, hml, hown, hts⟩ (CtI.use (c_X5_isPuddle l G ca (nI p)) H.size) (va_cwS 1 hts gX5_puddle_X5_isPuddle rfl rfl rfl (by decide +kernel) ⟨Nat.le_of_ble_eq_true rfl, Nat.le_of_ble_eq_true rfl⟩) (pcW_S hev P_nil (D_nil (A := A))) rfl rfl hl.1 rfl (lv_room (Nat.le_of_ble_eq_true rfl)) dX5_puddle_1 ⟨Nat.zero_le _, Nat.zero_le _⟩) hP hS hA (fun H locs hP hS => ?_)
  refine lv_eqi (y := 1) (by exact inC_p (by omega)) ?_
  refine lv_if_ne (tgt := 9) hx hb dX5_puddle_4 (by decide) (fun c_1 => ?_) (fun c_1 => ?_)
  · skip
    refine lv_iload_n hx hb dX5_puddle_9 rfl (lv_at hl 2 rfl) ?_
    refine lv_tableIn (off := 49) (tgt := 59) hx hb dX5_puddle_10 (by decide) (by decide) (by decide +kernel) (by decide) ?_
    refine lv_aload_n hx hb dX5_puddle_59 rfl (lv_at hl 0 rfl) ?_
    refine lv_iload_n hx hb dX5_puddle_60 rfl (lv_at hl 1 rfl) ?_
    refine goIw (va_runV (As := [.int (nI p)]) (rest := []) ⟨hx, hb, hml, hown, hts⟩ (CtI.use (c_X5_depth l G ca h a M p (by omega)) H.size) (cwV 1 hts gX5_puddle_X5_depth rfl rfl rfl (by decide +kernel) ⟨Nat.le_of_ble_eq_true rfl, Nat.le_of_ble_eq_true rfl⟩) (pcW_V hev hP hD (q0 := 0) rfl rfl rfl) rfl rfl hl.1 rfl (lv_room (Nat.le_of_ble_eq_true rfl)) dX5_puddle_61 ⟨Nat.zero_le _, Nat.zero_le _⟩) hD hS hA moF (fun H locs hP hD hS => ?_)
    refine lv_eqi (y := (m_z M) (8 + 5 * p + 1) / 5) rfl ?_
    refine lv_eqi (y := m_z M (8 + 5 * p + 1) / 5) rfl ?_
    exact hret _ _ _ _ hP hS dX5_puddle_64
  · skip
    exact absurd c_1 (by decide)
set_option maxHeartbeats 4000000 in
set_option maxRecDepth 100000 in
theorem c_X5_puddle_3 (l : Launch) (G : va_G) (ca : Nat → ClassId) (h : Nat) (a : Nat → Nat) (M : MM) (p : Nat) (hp1 : p < 12) : CtI l yX5_puddle wsX5_puddle ({ frames := 2, cells := 0, slots := 0, locals := 42 }) [.ref h, .int (nI p), .int (nI 3)] G ca (moT ca h a M) (moT ca h a M) (m_z M (8 + 5 * p + 2)) := by
  refine CtI.ofW (cc := cX5_puddle) (maxL := 3) (rt := .int) (by decide) rfl (Nat.le_of_ble_eq_true rfl) rfl ?_
  intro pr en s m be me c A ls Q H hx hb hml hts hown hev hP hD hA hS hl hret
  have hown : s.vm.findClass RX5 = some m.cls := hown
  have hl : lv_has ls 3 [(0, .ref h), (1, .int (nI p)), (2, .int (nI 3))] := hl
  have in_wsX50 : ∀ w ∈ wsX50, w ∈ wsX5_puddle := fun _ h => List.mem_cons_of_mem _ (List.mem_append_right _ h)
  refine lv_iload_n hx hb dX5_puddle_0 rfl (lv_at hl 1 rfl) ?_
  refine goI0 (va_runS (As := [.int (nI p)]) (rest := []) ⟨hx, hb, hml, hown, hts⟩ (CtI.use (c_X5_isPuddle l G ca (nI p)) H.size) (va_cwS 1 hts gX5_puddle_X5_isPuddle rfl rfl rfl (by decide +kernel) ⟨Nat.le_of_ble_eq_true rfl, Nat.le_of_ble_eq_true rfl⟩) (pcW_S hev P_nil (D_nil (A := A))) rfl rfl hl.1 rfl (lv_room (Nat.le_of_ble_eq_true rfl)) dX5_puddle_1 ⟨Nat.zero_le _, Nat.zero_le _⟩) hP hS hA (fun H locs hP hS => ?_)
  refine lv_eqi (y := 1) (by exact inC_p (by omega)) ?_
  refine lv_if_ne (tgt := 9) hx hb dX5_puddle_4 (by decide) (fun c_1 => ?_) (fun c_1 => ?_)
  · skip
    refine lv_iload_n hx hb dX5_puddle_9 rfl (lv_at hl 2 rfl) ?_
    refine lv_tableIn (off := 55) (tgt := 65) hx hb dX5_puddle_10 (by decide) (by decide) (by decide +kernel) (by decide) ?_
    refine lv_aload_n hx hb dX5_puddle_65 rfl (lv_at hl 0 rfl) ?_
    refine lv_iload_n hx hb dX5_puddle_66 rfl (lv_at hl 1 rfl) ?_
    refine lv_iconst (v := nI 2) hx hb dX5_puddle_67 (by decide) ?_
    refine goIw (va_runV (As := [.int (nI p), .int (nI 2)]) (rest := []) ⟨hx, hb, hml, hown, hts⟩ (CtI.use (c_X5_of l G ca h a M p 2 (by omega) (by omega)) H.size) (cwV 2 hts gX5_puddle_X5_of rfl rfl rfl (by decide +kernel) ⟨Nat.le_of_ble_eq_true rfl, Nat.le_of_ble_eq_true rfl⟩) (pcW_V hev hP hD (q0 := 0) rfl rfl rfl) rfl rfl hl.1 rfl (lv_room (Nat.le_of_ble_eq_true rfl)) dX5_puddle_68 ⟨Nat.zero_le _, Nat.zero_le _⟩) hD hS hA moF (fun H locs hP hD hS => ?_)
    refine lv_eqi (y := (m_z M) (8 + 5 * p + 2)) rfl ?_
    refine lv_eqi (y := m_z M (8 + 5 * p + 2)) rfl ?_
    exact hret _ _ _ _ hP hS dX5_puddle_71
  · skip
    exact absurd c_1 (by decide)
set_option maxHeartbeats 4000000 in
set_option maxRecDepth 100000 in
theorem c_X5_puddle_4 (l : Launch) (G : va_G) (ca : Nat → ClassId) (h : Nat) (a : Nat → Nat) (M : MM) (p : Nat) (hp1 : p < 12) : CtI l yX5_puddle wsX5_puddle ({ frames := 2, cells := 0, slots := 0, locals := 42 }) [.ref h, .int (nI p), .int (nI 4)] G ca (moT ca h a M) (moT ca h a M) (m_z M (8 + 5 * p + 3)) := by
  refine CtI.ofW (cc := cX5_puddle) (maxL := 3) (rt := .int) (by decide) rfl (Nat.le_of_ble_eq_true rfl) rfl ?_
  intro pr en s m be me c A ls Q H hx hb hml hts hown hev hP hD hA hS hl hret
  have hown : s.vm.findClass RX5 = some m.cls := hown
  have hl : lv_has ls 3 [(0, .ref h), (1, .int (nI p)), (2, .int (nI 4))] := hl
  have in_wsX50 : ∀ w ∈ wsX50, w ∈ wsX5_puddle := fun _ h => List.mem_cons_of_mem _ (List.mem_append_right _ h)
  refine lv_iload_n hx hb dX5_puddle_0 rfl (lv_at hl 1 rfl) ?_
  refine goI0 (va_runS (As := [.int (nI p)]) (rest := []) ⟨hx, hb, hml, hown, hts⟩ (CtI.use (c_X5_isPuddle l G ca (nI p)) H.size) (va_cwS 1 hts gX5_puddle_X5_isPuddle rfl rfl rfl (by decide +kernel) ⟨Nat.le_of_ble_eq_true rfl, Nat.le_of_ble_eq_true rfl⟩) (pcW_S hev P_nil (D_nil (A := A))) rfl rfl hl.1 rfl (lv_room (Nat.le_of_ble_eq_true rfl)) dX5_puddle_1 ⟨Nat.zero_le _, Nat.zero_le _⟩) hP hS hA (fun H locs hP hS => ?_)
  refine lv_eqi (y := 1) (by exact inC_p (by omega)) ?_
  refine lv_if_ne (tgt := 9) hx hb dX5_puddle_4 (by decide) (fun c_1 => ?_) (fun c_1 => ?_)
  · skip
    refine lv_iload_n hx hb dX5_puddle_9 rfl (lv_at hl 2 rfl) ?_
    refine lv_tableIn (off := 62) (tgt := 72) hx hb dX5_puddle_10 (by decide) (by decide) (by decide +kernel) (by decide) ?_
    refine lv_aload_n hx hb dX5_puddle_72 rfl (lv_at hl 0 rfl) ?_
    refine lv_iload_n hx hb dX5_puddle_73 rfl (lv_at hl 1 rfl) ?_
    refine lv_iconst (v := nI 3) hx hb dX5_puddle_74 (by decide) ?_
    refine goIw (va_runV (As := [.int (nI p), .int (nI 3)]) (rest := []) ⟨hx, hb, hml, hown, hts⟩ (CtI.use (c_X5_of l G ca h a M p 3 (by omega) (by omega)) H.size) (cwV 2 hts gX5_puddle_X5_of rfl rfl rfl (by decide +kernel) ⟨Nat.le_of_ble_eq_true rfl, Nat.le_of_ble_eq_true rfl⟩) (pcW_V hev hP hD (q0 := 0) rfl rfl rfl) rfl rfl hl.1 rfl (lv_room (Nat.le_of_ble_eq_true rfl)) dX5_puddle_75 ⟨Nat.zero_le _, Nat.zero_le _⟩) hD hS hA moF (fun H locs hP hD hS => ?_)
    refine lv_eqi (y := (m_z M) (8 + 5 * p + 3)) rfl ?_
    refine lv_eqi (y := m_z M (8 + 5 * p + 3)) rfl ?_
    exact hret _ _ _ _ hP hS dX5_puddle_78
  · skip
    exact absurd c_1 (by decide)
set_option maxHeartbeats 4000000 in
set_option maxRecDepth 100000 in
theorem c_X5_puddle_5 (l : Launch) (G : va_G) (ca : Nat → ClassId) (h : Nat) (a : Nat → Nat) (M : MM) (p : Nat) (hp1 : p < 12) : CtI l yX5_puddle wsX5_puddle ({ frames := 2, cells := 0, slots := 0, locals := 42 }) [.ref h, .int (nI p), .int (nI 5)] G ca (moT ca h a M) (moT ca h a M) (m_z M (8 + 5 * p + 4)) := by
  refine CtI.ofW (cc := cX5_puddle) (maxL := 3) (rt := .int) (by decide) rfl (Nat.le_of_ble_eq_true rfl) rfl ?_
  intro pr en s m be me c A ls Q H hx hb hml hts hown hev hP hD hA hS hl hret
  have hown : s.vm.findClass RX5 = some m.cls := hown
  have hl : lv_has ls 3 [(0, .ref h), (1, .int (nI p)), (2, .int (nI 5))] := hl
  have in_wsX50 : ∀ w ∈ wsX50, w ∈ wsX5_puddle := fun _ h => List.mem_cons_of_mem _ (List.mem_append_right _ h)
  refine lv_iload_n hx hb dX5_puddle_0 rfl (lv_at hl 1 rfl) ?_
  refine goI0 (va_runS (As := [.int (nI p)]) (rest := []) ⟨hx, hb, hml, hown, hts⟩ (CtI.use (c_X5_isPuddle l G ca (nI p)) H.size) (va_cwS 1 hts gX5_puddle_X5_isPuddle rfl rfl rfl (by decide +kernel) ⟨Nat.le_of_ble_eq_true rfl, Nat.le_of_ble_eq_true rfl⟩) (pcW_S hev P_nil (D_nil (A := A))) rfl rfl hl.1 rfl (lv_room (Nat.le_of_ble_eq_true rfl)) dX5_puddle_1 ⟨Nat.zero_le _, Nat.zero_le _⟩) hP hS hA (fun H locs hP hS => ?_)
  refine lv_eqi (y := 1) (by exact inC_p (by omega)) ?_
  refine lv_if_ne (tgt := 9) hx hb dX5_puddle_4 (by decide) (fun c_1 => ?_) (fun c_1 => ?_)
  · skip
    refine lv_iload_n hx hb dX5_puddle_9 rfl (lv_at hl 2 rfl) ?_
    refine lv_tableIn (off := 69) (tgt := 79) hx hb dX5_puddle_10 (by decide) (by decide) (by decide +kernel) (by decide) ?_
    refine lv_aload_n hx hb dX5_puddle_79 rfl (lv_at hl 0 rfl) ?_
    refine lv_iload_n hx hb dX5_puddle_80 rfl (lv_at hl 1 rfl) ?_
    refine lv_iconst (v := nI 4) hx hb dX5_puddle_81 (by decide) ?_
    refine goIw (va_runV (As := [.int (nI p), .int (nI 4)]) (rest := []) ⟨hx, hb, hml, hown, hts⟩ (CtI.use (c_X5_of l G ca h a M p 4 (by omega) (by omega)) H.size) (cwV 2 hts gX5_puddle_X5_of rfl rfl rfl (by decide +kernel) ⟨Nat.le_of_ble_eq_true rfl, Nat.le_of_ble_eq_true rfl⟩) (pcW_V hev hP hD (q0 := 0) rfl rfl rfl) rfl rfl hl.1 rfl (lv_room (Nat.le_of_ble_eq_true rfl)) dX5_puddle_82 ⟨Nat.zero_le _, Nat.zero_le _⟩) hD hS hA moF (fun H locs hP hD hS => ?_)
    refine lv_eqi (y := (m_z M) (8 + 5 * p + 4)) rfl ?_
    refine lv_eqi (y := m_z M (8 + 5 * p + 4)) rfl ?_
    exact hret _ _ _ _ hP hS dX5_puddle_85
  · skip
    exact absurd c_1 (by decide)
set_option maxHeartbeats 4000000 in
set_option maxRecDepth 100000 in
theorem c_X5_puddle_6 (l : Launch) (G : va_G) (ca : Nat → ClassId) (h : Nat) (a : Nat → Nat) (M : MM) (p : Nat) (hp1 : p < 12) : CtI l yX5_puddle wsX5_puddle ({ frames := 2, cells := 0, slots := 0, locals := 45 }) [.ref h, .int (nI p), .int (nI 6)] G ca (moT ca h a M) (moT ca h a M) (orD (zHg (m_z M) p) 6) := by
  refine CtI.ofW (cc := cX5_puddle) (maxL := 3) (rt := .int) (by decide) rfl (Nat.le_of_ble_eq_true rfl) rfl ?_
  intro pr en s m be me c A ls Q H hx hb hml hts hown hev hP hD hA hS hl hret
  have hown : s.vm.findClass RX5 = some m.cls := hown
  have hl : lv_has ls 3 [(0, .ref h), (1, .int (nI p)), (2, .int (nI 6))] := hl
  have in_wsX50 : ∀ w ∈ wsX50, w ∈ wsX5_puddle := fun _ h => List.mem_cons_of_mem _ (List.mem_append_right _ h)
  refine lv_iload_n hx hb dX5_puddle_0 rfl (lv_at hl 1 rfl) ?_
  refine goI0 (va_runS (As := [.int (nI p)]) (rest := []) ⟨hx, hb, hml, hown, hts⟩ (CtI.use (c_X5_isPuddle l G ca (nI p)) H.size) (va_cwS 1 hts gX5_puddle_X5_isPuddle rfl rfl rfl (by decide +kernel) ⟨Nat.le_of_ble_eq_true rfl, Nat.le_of_ble_eq_true rfl⟩) (pcW_S hev P_nil (D_nil (A := A))) rfl rfl hl.1 rfl (lv_room (Nat.le_of_ble_eq_true rfl)) dX5_puddle_1 ⟨Nat.zero_le _, Nat.zero_le _⟩) hP hS hA (fun H locs hP hS => ?_)
  refine lv_eqi (y := 1) (by exact inC_p (by omega)) ?_
  refine lv_if_ne (tgt := 9) hx hb dX5_puddle_4 (by decide) (fun c_1 => ?_) (fun c_1 => ?_)
  · skip
    refine lv_iload_n hx hb dX5_puddle_9 rfl (lv_at hl 2 rfl) ?_
    refine lv_tableIn (off := 76) (tgt := 86) hx hb dX5_puddle_10 (by decide) (by decide) (by decide +kernel) (by decide) ?_
    refine lv_aload_n hx hb dX5_puddle_86 rfl (lv_at hl 0 rfl) ?_
    refine lv_iload_n hx hb dX5_puddle_87 rfl (lv_at hl 1 rfl) ?_
    refine goIw (va_runV (As := [.int (nI p)]) (rest := []) ⟨hx, hb, hml, hown, hts⟩ (CtI.use (c_X5_permitted l G ca h a M p (by omega)) H.size) (cwV 1 hts gX5_puddle_X5_permitted rfl rfl rfl (by decide +kernel) ⟨Nat.le_of_ble_eq_true rfl, Nat.le_of_ble_eq_true rfl⟩) (pcW_V hev hP hD (q0 := 0) rfl rfl rfl) rfl rfl hl.1 rfl (lv_room (Nat.le_of_ble_eq_true rfl)) dX5_puddle_88 ⟨Nat.zero_le _, Nat.zero_le _⟩) hD hS hA moF (fun H locs hP hD hS => ?_)
    exact hret _ _ _ _ hP hS dX5_puddle_91
  · skip
    exact absurd c_1 (by decide)
set_option maxHeartbeats 4000000 in
set_option maxRecDepth 100000 in
theorem c_X5_puddle_bad (l : Launch) (G : va_G) (ca : Nat → ClassId) (h : Nat) (a : Nat → Nat) (M : MM) (p : Nat) (v : Int32) (hp1 : p < 12) (hv : v.toInt < 0 ∨ 6 < v.toInt) : CtI l yX5_puddle wsX5_puddle ({ frames := 2, cells := 0, slots := 0, locals := 42 }) [.ref h, .int (nI p), .int v] G ca (moT ca h a M) (moT ca h a M) (-2) := by
  refine CtI.ofW (cc := cX5_puddle) (maxL := 3) (rt := .int) (by decide) rfl (Nat.le_of_ble_eq_true rfl) rfl ?_
  intro pr en s m be me c A ls Q H hx hb hml hts hown hev hP hD hA hS hl hret
  have hown : s.vm.findClass RX5 = some m.cls := hown
  have hl : lv_has ls 3 [(0, .ref h), (1, .int (nI p)), (2, .int v)] := hl
  have in_wsX50 : ∀ w ∈ wsX50, w ∈ wsX5_puddle := fun _ h => List.mem_cons_of_mem _ (List.mem_append_right _ h)
  refine lv_iload_n hx hb dX5_puddle_0 rfl (lv_at hl 1 rfl) ?_
  refine goI0 (va_runS (As := [.int (nI p)]) (rest := []) ⟨hx, hb, hml, hown, hts⟩ (CtI.use (c_X5_isPuddle l G ca (nI p)) H.size) (va_cwS 1 hts gX5_puddle_X5_isPuddle rfl rfl rfl (by decide +kernel) ⟨Nat.le_of_ble_eq_true rfl, Nat.le_of_ble_eq_true rfl⟩) (pcW_S hev P_nil (D_nil (A := A))) rfl rfl hl.1 rfl (lv_room (Nat.le_of_ble_eq_true rfl)) dX5_puddle_1 ⟨Nat.zero_le _, Nat.zero_le _⟩) hP hS hA (fun H locs hP hS => ?_)
  refine lv_eqi (y := 1) (by exact inC_p (by omega)) ?_
  refine lv_if_ne (tgt := 9) hx hb dX5_puddle_4 (by decide) (fun c_1 => ?_) (fun c_1 => ?_)
  · skip
    refine lv_iload_n hx hb dX5_puddle_9 rfl (lv_at hl 2 rfl) ?_
    refine lv_tableOut (tgt := 92) hx hb dX5_puddle_10 hv (by decide) ?_
    refine lv_bipush (v := (-2)) hx hb dX5_puddle_92 (by decide) ?_
    exact hret _ _ _ _ hP hS dX5_puddle_94
  · skip
    exact absurd c_1 (by decide)
set_option maxHeartbeats 4000000 in
set_option maxRecDepth 100000 in
theorem c_X5_walker_out (l : Launch) (G : va_G) (ca : Nat → ClassId) (h : Nat) (a : Nat → Nat) (M : MM) (x : Int32) (v : Int32) (hx0 : x < 0 ∨ nI 6 ≤ x) : CtI l yX5_walker wsX5_walker ({ frames := 2, cells := 0, slots := 0, locals := 42 }) [.ref h, .int x, .int v] G ca (moT ca h a M) (moT ca h a M) (-1) := by
  refine CtI.ofW (cc := cX5_walker) (maxL := 3) (rt := .int) (by decide) rfl (Nat.le_of_ble_eq_true rfl) rfl ?_
  intro pr en s m be me c A ls Q H hx hb hml hts hown hev hP hD hA hS hl hret
  have hown : s.vm.findClass RX5 = some m.cls := hown
  have hl : lv_has ls 3 [(0, .ref h), (1, .int x), (2, .int v)] := hl
  have in_wsX50 : ∀ w ∈ wsX50, w ∈ wsX5_walker := fun _ h => List.mem_cons_of_mem _ (List.mem_append_right _ h)
  refine lv_iload_n hx hb dX5_walker_0 rfl (lv_at hl 1 rfl) ?_
  refine goI0 (va_runS (As := [.int x]) (rest := []) ⟨hx, hb, hml, hown, hts⟩ (CtI.use (c_X5_isWalker l G ca x) H.size) (va_cwS 1 hts gX5_walker_X5_isWalker rfl rfl rfl (by decide +kernel) ⟨Nat.le_of_ble_eq_true rfl, Nat.le_of_ble_eq_true rfl⟩) (pcW_S hev P_nil (D_nil (A := A))) rfl rfl hl.1 rfl (lv_room (Nat.le_of_ble_eq_true rfl)) dX5_walker_1 ⟨Nat.zero_le _, Nat.zero_le _⟩) hP hS hA (fun H locs hP hS => ?_)
  refine lv_eqi (y := 0) (by exact inC_wo hx0) ?_
  refine lv_if_ne (tgt := 9) hx hb dX5_walker_4 (by decide) (fun c_1 => ?_) (fun c_1 => ?_)
  · skip
    exact absurd (by decide) c_1
  · skip
    refine lv_iconst (v := (-1)) hx hb dX5_walker_7 (by decide) ?_
    exact hret _ _ _ _ hP hS dX5_walker_8
set_option maxHeartbeats 4000000 in
set_option maxRecDepth 100000 in
theorem c_X5_walker_0 (l : Launch) (G : va_G) (ca : Nat → ClassId) (h : Nat) (a : Nat → Nat) (M : MM) (w : Nat) (hw : w < 6) : CtI l yX5_walker wsX5_walker ({ frames := 2, cells := 0, slots := 0, locals := 42 }) [.ref h, .int (nI w), .int (nI 0)] G ca (moT ca h a M) (moT ca h a M) (m_z M (68 + 4 * w + 0)) := by
  refine CtI.ofW (cc := cX5_walker) (maxL := 3) (rt := .int) (by decide) rfl (Nat.le_of_ble_eq_true rfl) rfl ?_
  intro pr en s m be me c A ls Q H hx hb hml hts hown hev hP hD hA hS hl hret
  have hown : s.vm.findClass RX5 = some m.cls := hown
  have hl : lv_has ls 3 [(0, .ref h), (1, .int (nI w)), (2, .int (nI 0))] := hl
  have in_wsX50 : ∀ w ∈ wsX50, w ∈ wsX5_walker := fun _ h => List.mem_cons_of_mem _ (List.mem_append_right _ h)
  refine lv_iload_n hx hb dX5_walker_0 rfl (lv_at hl 1 rfl) ?_
  refine goI0 (va_runS (As := [.int (nI w)]) (rest := []) ⟨hx, hb, hml, hown, hts⟩ (CtI.use (c_X5_isWalker l G ca (nI w)) H.size) (va_cwS 1 hts gX5_walker_X5_isWalker rfl rfl rfl (by decide +kernel) ⟨Nat.le_of_ble_eq_true rfl, Nat.le_of_ble_eq_true rfl⟩) (pcW_S hev P_nil (D_nil (A := A))) rfl rfl hl.1 rfl (lv_room (Nat.le_of_ble_eq_true rfl)) dX5_walker_1 ⟨Nat.zero_le _, Nat.zero_le _⟩) hP hS hA (fun H locs hP hS => ?_)
  refine lv_eqi (y := 1) (by exact inC_w (by omega)) ?_
  refine lv_if_ne (tgt := 9) hx hb dX5_walker_4 (by decide) (fun c_1 => ?_) (fun c_1 => ?_)
  · skip
    refine lv_iload_n hx hb dX5_walker_9 rfl (lv_at hl 2 rfl) ?_
    refine lv_tableIn (off := 38) (tgt := 48) hx hb dX5_walker_10 (by decide) (by decide) (by decide +kernel) (by decide) ?_
    refine lv_aload_n hx hb dX5_walker_48 rfl (lv_at hl 0 rfl) ?_
    refine lv_iload_n hx hb dX5_walker_49 rfl (lv_at hl 1 rfl) ?_
    refine lv_iload_n hx hb dX5_walker_50 rfl (lv_at hl 2 rfl) ?_
    refine goIw (va_runV (As := [.int (nI w), .int (nI 0)]) (rest := []) ⟨hx, hb, hml, hown, hts⟩ (CtI.use (c_X5_ofWalker l G ca h a M w 0 (by omega) (by omega)) H.size) (cwV 2 hts gX5_walker_X5_ofWalker rfl rfl rfl (by decide +kernel) ⟨Nat.le_of_ble_eq_true rfl, Nat.le_of_ble_eq_true rfl⟩) (pcW_V hev hP hD (q0 := 0) rfl rfl rfl) rfl rfl hl.1 rfl (lv_room (Nat.le_of_ble_eq_true rfl)) dX5_walker_51 ⟨Nat.zero_le _, Nat.zero_le _⟩) hD hS hA moF (fun H locs hP hD hS => ?_)
    refine lv_eqi (y := (m_z M) (68 + 4 * w + 0)) rfl ?_
    refine lv_eqi (y := m_z M (68 + 4 * w + 0)) rfl ?_
    exact hret _ _ _ _ hP hS dX5_walker_54
  · skip
    exact absurd c_1 (by decide)
set_option maxHeartbeats 4000000 in
set_option maxRecDepth 100000 in
theorem c_X5_walker_1 (l : Launch) (G : va_G) (ca : Nat → ClassId) (h : Nat) (a : Nat → Nat) (M : MM) (w : Nat) (hw : w < 6) : CtI l yX5_walker wsX5_walker ({ frames := 2, cells := 0, slots := 0, locals := 42 }) [.ref h, .int (nI w), .int (nI 1)] G ca (moT ca h a M) (moT ca h a M) (m_z M (68 + 4 * w + 1)) := by
  refine CtI.ofW (cc := cX5_walker) (maxL := 3) (rt := .int) (by decide) rfl (Nat.le_of_ble_eq_true rfl) rfl ?_
  intro pr en s m be me c A ls Q H hx hb hml hts hown hev hP hD hA hS hl hret
  have hown : s.vm.findClass RX5 = some m.cls := hown
  have hl : lv_has ls 3 [(0, .ref h), (1, .int (nI w)), (2, .int (nI 1))] := hl
  have in_wsX50 : ∀ w ∈ wsX50, w ∈ wsX5_walker := fun _ h => List.mem_cons_of_mem _ (List.mem_append_right _ h)
  refine lv_iload_n hx hb dX5_walker_0 rfl (lv_at hl 1 rfl) ?_
  refine goI0 (va_runS (As := [.int (nI w)]) (rest := []) ⟨hx, hb, hml, hown, hts⟩ (CtI.use (c_X5_isWalker l G ca (nI w)) H.size) (va_cwS 1 hts gX5_walker_X5_isWalker rfl rfl rfl (by decide +kernel) ⟨Nat.le_of_ble_eq_true rfl, Nat.le_of_ble_eq_true rfl⟩) (pcW_S hev P_nil (D_nil (A := A))) rfl rfl hl.1 rfl (lv_room (Nat.le_of_ble_eq_true rfl)) dX5_walker_1 ⟨Nat.zero_le _, Nat.zero_le _⟩) hP hS hA (fun H locs hP hS => ?_)
  refine lv_eqi (y := 1) (by exact inC_w (by omega)) ?_
  refine lv_if_ne (tgt := 9) hx hb dX5_walker_4 (by decide) (fun c_1 => ?_) (fun c_1 => ?_)
  · skip
    refine lv_iload_n hx hb dX5_walker_9 rfl (lv_at hl 2 rfl) ?_
    refine lv_tableIn (off := 38) (tgt := 48) hx hb dX5_walker_10 (by decide) (by decide) (by decide +kernel) (by decide) ?_
    refine lv_aload_n hx hb dX5_walker_48 rfl (lv_at hl 0 rfl) ?_
    refine lv_iload_n hx hb dX5_walker_49 rfl (lv_at hl 1 rfl) ?_
    refine lv_iload_n hx hb dX5_walker_50 rfl (lv_at hl 2 rfl) ?_
    refine goIw (va_runV (As := [.int (nI w), .int (nI 1)]) (rest := []) ⟨hx, hb, hml, hown, hts⟩ (CtI.use (c_X5_ofWalker l G ca h a M w 1 (by omega) (by omega)) H.size) (cwV 2 hts gX5_walker_X5_ofWalker rfl rfl rfl (by decide +kernel) ⟨Nat.le_of_ble_eq_true rfl, Nat.le_of_ble_eq_true rfl⟩) (pcW_V hev hP hD (q0 := 0) rfl rfl rfl) rfl rfl hl.1 rfl (lv_room (Nat.le_of_ble_eq_true rfl)) dX5_walker_51 ⟨Nat.zero_le _, Nat.zero_le _⟩) hD hS hA moF (fun H locs hP hD hS => ?_)
    refine lv_eqi (y := (m_z M) (68 + 4 * w + 1)) rfl ?_
    refine lv_eqi (y := m_z M (68 + 4 * w + 1)) rfl ?_
    exact hret _ _ _ _ hP hS dX5_walker_54
  · skip
    exact absurd c_1 (by decide)
set_option maxHeartbeats 4000000 in
set_option maxRecDepth 100000 in
theorem c_X5_walker_2 (l : Launch) (G : va_G) (ca : Nat → ClassId) (h : Nat) (a : Nat → Nat) (M : MM) (w : Nat) (hw : w < 6) : CtI l yX5_walker wsX5_walker ({ frames := 2, cells := 0, slots := 0, locals := 42 }) [.ref h, .int (nI w), .int (nI 2)] G ca (moT ca h a M) (moT ca h a M) (m_z M (68 + 4 * w + 2)) := by
  refine CtI.ofW (cc := cX5_walker) (maxL := 3) (rt := .int) (by decide) rfl (Nat.le_of_ble_eq_true rfl) rfl ?_
  intro pr en s m be me c A ls Q H hx hb hml hts hown hev hP hD hA hS hl hret
  have hown : s.vm.findClass RX5 = some m.cls := hown
  have hl : lv_has ls 3 [(0, .ref h), (1, .int (nI w)), (2, .int (nI 2))] := hl
  have in_wsX50 : ∀ w ∈ wsX50, w ∈ wsX5_walker := fun _ h => List.mem_cons_of_mem _ (List.mem_append_right _ h)
  refine lv_iload_n hx hb dX5_walker_0 rfl (lv_at hl 1 rfl) ?_
  refine goI0 (va_runS (As := [.int (nI w)]) (rest := []) ⟨hx, hb, hml, hown, hts⟩ (CtI.use (c_X5_isWalker l G ca (nI w)) H.size) (va_cwS 1 hts gX5_walker_X5_isWalker rfl rfl rfl (by decide +kernel) ⟨Nat.le_of_ble_eq_true rfl, Nat.le_of_ble_eq_true rfl⟩) (pcW_S hev P_nil (D_nil (A := A))) rfl rfl hl.1 rfl (lv_room (Nat.le_of_ble_eq_true rfl)) dX5_walker_1 ⟨Nat.zero_le _, Nat.zero_le _⟩) hP hS hA (fun H locs hP hS => ?_)
  refine lv_eqi (y := 1) (by exact inC_w (by omega)) ?_
  refine lv_if_ne (tgt := 9) hx hb dX5_walker_4 (by decide) (fun c_1 => ?_) (fun c_1 => ?_)
  · skip
    refine lv_iload_n hx hb dX5_walker_9 rfl (lv_at hl 2 rfl) ?_
    refine lv_tableIn (off := 38) (tgt := 48) hx hb dX5_walker_10 (by decide) (by decide) (by decide +kernel) (by decide) ?_
    refine lv_aload_n hx hb dX5_walker_48 rfl (lv_at hl 0 rfl) ?_
    refine lv_iload_n hx hb dX5_walker_49 rfl (lv_at hl 1 rfl) ?_
    refine lv_iload_n hx hb dX5_walker_50 rfl (lv_at hl 2 rfl) ?_
    refine goIw (va_runV (As := [.int (nI w), .int (nI 2)]) (rest := []) ⟨hx, hb, hml, hown, hts⟩ (CtI.use (c_X5_ofWalker l G ca h a M w 2 (by omega) (by omega)) H.size) (cwV 2 hts gX5_walker_X5_ofWalker rfl rfl rfl (by decide +kernel) ⟨Nat.le_of_ble_eq_true rfl, Nat.le_of_ble_eq_true rfl⟩) (pcW_V hev hP hD (q0 := 0) rfl rfl rfl) rfl rfl hl.1 rfl (lv_room (Nat.le_of_ble_eq_true rfl)) dX5_walker_51 ⟨Nat.zero_le _, Nat.zero_le _⟩) hD hS hA moF (fun H locs hP hD hS => ?_)
    refine lv_eqi (y := (m_z M) (68 + 4 * w + 2)) rfl ?_
    refine lv_eqi (y := m_z M (68 + 4 * w + 2)) rfl ?_
    exact hret _ _ _ _ hP hS dX5_walker_54
  · skip
    exact absurd c_1 (by decide)
set_option maxHeartbeats 4000000 in
set_option maxRecDepth 100000 in
theorem c_X5_walker_3 (l : Launch) (G : va_G) (ca : Nat → ClassId) (h : Nat) (a : Nat → Nat) (M : MM) (w : Nat) (hw : w < 6) : CtI l yX5_walker wsX5_walker ({ frames := 2, cells := 0, slots := 0, locals := 42 }) [.ref h, .int (nI w), .int (nI 3)] G ca (moT ca h a M) (moT ca h a M) (m_z M (68 + 4 * w + 3)) := by
  refine CtI.ofW (cc := cX5_walker) (maxL := 3) (rt := .int) (by decide) rfl (Nat.le_of_ble_eq_true rfl) rfl ?_
  intro pr en s m be me c A ls Q H hx hb hml hts hown hev hP hD hA hS hl hret
  have hown : s.vm.findClass RX5 = some m.cls := hown
  have hl : lv_has ls 3 [(0, .ref h), (1, .int (nI w)), (2, .int (nI 3))] := hl
  have in_wsX50 : ∀ w ∈ wsX50, w ∈ wsX5_walker := fun _ h => List.mem_cons_of_mem _ (List.mem_append_right _ h)
  refine lv_iload_n hx hb dX5_walker_0 rfl (lv_at hl 1 rfl) ?_
  refine goI0 (va_runS (As := [.int (nI w)]) (rest := []) ⟨hx, hb, hml, hown, hts⟩ (CtI.use (c_X5_isWalker l G ca (nI w)) H.size) (va_cwS 1 hts gX5_walker_X5_isWalker rfl rfl rfl (by decide +kernel) ⟨Nat.le_of_ble_eq_true rfl, Nat.le_of_ble_eq_true rfl⟩) (pcW_S hev P_nil (D_nil (A := A))) rfl rfl hl.1 rfl (lv_room (Nat.le_of_ble_eq_true rfl)) dX5_walker_1 ⟨Nat.zero_le _, Nat.zero_le _⟩) hP hS hA (fun H locs hP hS => ?_)
  refine lv_eqi (y := 1) (by exact inC_w (by omega)) ?_
  refine lv_if_ne (tgt := 9) hx hb dX5_walker_4 (by decide) (fun c_1 => ?_) (fun c_1 => ?_)
  · skip
    refine lv_iload_n hx hb dX5_walker_9 rfl (lv_at hl 2 rfl) ?_
    refine lv_tableIn (off := 38) (tgt := 48) hx hb dX5_walker_10 (by decide) (by decide) (by decide +kernel) (by decide) ?_
    refine lv_aload_n hx hb dX5_walker_48 rfl (lv_at hl 0 rfl) ?_
    refine lv_iload_n hx hb dX5_walker_49 rfl (lv_at hl 1 rfl) ?_
    refine lv_iload_n hx hb dX5_walker_50 rfl (lv_at hl 2 rfl) ?_
    refine goIw (va_runV (As := [.int (nI w), .int (nI 3)]) (rest := []) ⟨hx, hb, hml, hown, hts⟩ (CtI.use (c_X5_ofWalker l G ca h a M w 3 (by omega) (by omega)) H.size) (cwV 2 hts gX5_walker_X5_ofWalker rfl rfl rfl (by decide +kernel) ⟨Nat.le_of_ble_eq_true rfl, Nat.le_of_ble_eq_true rfl⟩) (pcW_V hev hP hD (q0 := 0) rfl rfl rfl) rfl rfl hl.1 rfl (lv_room (Nat.le_of_ble_eq_true rfl)) dX5_walker_51 ⟨Nat.zero_le _, Nat.zero_le _⟩) hD hS hA moF (fun H locs hP hD hS => ?_)
    refine lv_eqi (y := (m_z M) (68 + 4 * w + 3)) rfl ?_
    refine lv_eqi (y := m_z M (68 + 4 * w + 3)) rfl ?_
    exact hret _ _ _ _ hP hS dX5_walker_54
  · skip
    exact absurd c_1 (by decide)
set_option maxHeartbeats 4000000 in
set_option maxRecDepth 100000 in
theorem c_X5_walker_4 (l : Launch) (G : va_G) (ca : Nat → ClassId) (h : Nat) (a : Nat → Nat) (M : MM) (w : Nat) (hw : w < 6) : CtI l yX5_walker wsX5_walker ({ frames := 2, cells := 0, slots := 0, locals := 45 }) [.ref h, .int (nI w), .int (nI 4)] G ca (moT ca h a M) (moT ca h a M) (orD (zPg (m_z M) w) 12) := by
  refine CtI.ofW (cc := cX5_walker) (maxL := 3) (rt := .int) (by decide) rfl (Nat.le_of_ble_eq_true rfl) rfl ?_
  intro pr en s m be me c A ls Q H hx hb hml hts hown hev hP hD hA hS hl hret
  have hown : s.vm.findClass RX5 = some m.cls := hown
  have hl : lv_has ls 3 [(0, .ref h), (1, .int (nI w)), (2, .int (nI 4))] := hl
  have in_wsX50 : ∀ w ∈ wsX50, w ∈ wsX5_walker := fun _ h => List.mem_cons_of_mem _ (List.mem_append_right _ h)
  refine lv_iload_n hx hb dX5_walker_0 rfl (lv_at hl 1 rfl) ?_
  refine goI0 (va_runS (As := [.int (nI w)]) (rest := []) ⟨hx, hb, hml, hown, hts⟩ (CtI.use (c_X5_isWalker l G ca (nI w)) H.size) (va_cwS 1 hts gX5_walker_X5_isWalker rfl rfl rfl (by decide +kernel) ⟨Nat.le_of_ble_eq_true rfl, Nat.le_of_ble_eq_true rfl⟩) (pcW_S hev P_nil (D_nil (A := A))) rfl rfl hl.1 rfl (lv_room (Nat.le_of_ble_eq_true rfl)) dX5_walker_1 ⟨Nat.zero_le _, Nat.zero_le _⟩) hP hS hA (fun H locs hP hS => ?_)
  refine lv_eqi (y := 1) (by exact inC_w (by omega)) ?_
  refine lv_if_ne (tgt := 9) hx hb dX5_walker_4 (by decide) (fun c_1 => ?_) (fun c_1 => ?_)
  · skip
    refine lv_iload_n hx hb dX5_walker_9 rfl (lv_at hl 2 rfl) ?_
    refine lv_tableIn (off := 45) (tgt := 55) hx hb dX5_walker_10 (by decide) (by decide) (by decide +kernel) (by decide) ?_
    refine lv_aload_n hx hb dX5_walker_55 rfl (lv_at hl 0 rfl) ?_
    refine lv_iload_n hx hb dX5_walker_56 rfl (lv_at hl 1 rfl) ?_
    refine goIw (va_runV (As := [.int (nI w)]) (rest := []) ⟨hx, hb, hml, hown, hts⟩ (CtI.use (c_X5_permits l G ca h a M w (by omega)) H.size) (cwV 1 hts gX5_walker_X5_permits rfl rfl rfl (by decide +kernel) ⟨Nat.le_of_ble_eq_true rfl, Nat.le_of_ble_eq_true rfl⟩) (pcW_V hev hP hD (q0 := 0) rfl rfl rfl) rfl rfl hl.1 rfl (lv_room (Nat.le_of_ble_eq_true rfl)) dX5_walker_57 ⟨Nat.zero_le _, Nat.zero_le _⟩) hD hS hA moF (fun H locs hP hD hS => ?_)
    exact hret _ _ _ _ hP hS dX5_walker_60
  · skip
    exact absurd c_1 (by decide)
set_option maxHeartbeats 4000000 in
set_option maxRecDepth 100000 in
theorem c_X5_walker_5 (l : Launch) (G : va_G) (ca : Nat → ClassId) (h : Nat) (a : Nat → Nat) (M : MM) (w : Nat) (hw : w < 6) : CtI l yX5_walker wsX5_walker ({ frames := 4, cells := 0, slots := 0, locals := 91 }) [.ref h, .int (nI w), .int (nI 5)] G ca (moT ca h a M) (moT ca h a M) (orD (zMg (m_z M) w (m_z M (68 + 4 * w + 0))) 12) := by
  refine CtI.ofW (cc := cX5_walker) (maxL := 3) (rt := .int) (by decide) rfl (Nat.le_of_ble_eq_true rfl) rfl ?_
  intro pr en s m be me c A ls Q H hx hb hml hts hown hev hP hD hA hS hl hret
  have hown : s.vm.findClass RX5 = some m.cls := hown
  have hl : lv_has ls 3 [(0, .ref h), (1, .int (nI w)), (2, .int (nI 5))] := hl
  have in_wsX50 : ∀ w ∈ wsX50, w ∈ wsX5_walker := fun _ h => List.mem_cons_of_mem _ (List.mem_append_right _ h)
  refine lv_iload_n hx hb dX5_walker_0 rfl (lv_at hl 1 rfl) ?_
  refine goI0 (va_runS (As := [.int (nI w)]) (rest := []) ⟨hx, hb, hml, hown, hts⟩ (CtI.use (c_X5_isWalker l G ca (nI w)) H.size) (va_cwS 1 hts gX5_walker_X5_isWalker rfl rfl rfl (by decide +kernel) ⟨Nat.le_of_ble_eq_true rfl, Nat.le_of_ble_eq_true rfl⟩) (pcW_S hev P_nil (D_nil (A := A))) rfl rfl hl.1 rfl (lv_room (Nat.le_of_ble_eq_true rfl)) dX5_walker_1 ⟨Nat.zero_le _, Nat.zero_le _⟩) hP hS hA (fun H locs hP hS => ?_)
  refine lv_eqi (y := 1) (by exact inC_w (by omega)) ?_
  refine lv_if_ne (tgt := 9) hx hb dX5_walker_4 (by decide) (fun c_1 => ?_) (fun c_1 => ?_)
  · skip
    refine lv_iload_n hx hb dX5_walker_9 rfl (lv_at hl 2 rfl) ?_
    refine lv_tableIn (off := 51) (tgt := 61) hx hb dX5_walker_10 (by decide) (by decide) (by decide +kernel) (by decide) ?_
    refine lv_aload_n hx hb dX5_walker_61 rfl (lv_at hl 0 rfl) ?_
    refine lv_iload_n hx hb dX5_walker_62 rfl (lv_at hl 1 rfl) ?_
    refine lv_aload_n hx hb dX5_walker_63 rfl (lv_at hl 0 rfl) ?_
    refine lv_iload_n hx hb dX5_walker_64 rfl (lv_at hl 1 rfl) ?_
    refine lv_iconst (v := nI 0) hx hb dX5_walker_65 (by decide) ?_
    refine goIw (va_runV (As := [.int (nI w), .int (nI 0)]) (rest := [.int (nI w), .ref h]) ⟨hx, hb, hml, hown, hts⟩ (CtI.use (c_X5_ofWalker l G ca h a M w 0 (by omega) (by omega)) H.size) (cwV 2 hts gX5_walker_X5_ofWalker rfl rfl rfl (by decide +kernel) ⟨Nat.le_of_ble_eq_true rfl, Nat.le_of_ble_eq_true rfl⟩) (pcW_V hev hP hD (q0 := 0) rfl rfl rfl) rfl rfl hl.1 rfl (lv_room (Nat.le_of_ble_eq_true rfl)) dX5_walker_66 ⟨Nat.zero_le _, Nat.zero_le _⟩) hD hS hA moF (fun H locs hP hD hS => ?_)
    refine lv_eqi (y := (m_z M) (68 + 4 * w + 0)) rfl ?_
    refine goIw (va_runV (As := [.int (nI w), .int ((m_z M) (68 + 4 * w + 0))]) (rest := []) ⟨hx, hb, hml, hown, hts⟩ (CtI.use (c_X5_may l G ca h a M w ((m_z M) (68 + 4 * w + 0)) (by omega)) H.size) (cwV 2 hts gX5_walker_X5_may rfl rfl rfl (by decide +kernel) ⟨Nat.le_of_ble_eq_true rfl, Nat.le_of_ble_eq_true rfl⟩) (pcW_V hev hP hD (q0 := 0) rfl rfl rfl) rfl rfl hl.1 rfl (lv_room (Nat.le_of_ble_eq_true rfl)) dX5_walker_69 ⟨Nat.zero_le _, Nat.zero_le _⟩) hD hS hA moF (fun H locs hP hD hS => ?_)
    refine lv_eqi (y := orD (zMg (m_z M) w (m_z M (68 + 4 * w + 0))) 12) rfl ?_
    exact hret _ _ _ _ hP hS dX5_walker_72
  · skip
    exact absurd c_1 (by decide)
set_option maxHeartbeats 4000000 in
set_option maxRecDepth 100000 in
theorem c_X5_walker_bad (l : Launch) (G : va_G) (ca : Nat → ClassId) (h : Nat) (a : Nat → Nat) (M : MM) (w : Nat) (v : Int32) (hw : w < 6) (hv : v.toInt < 0 ∨ 5 < v.toInt) : CtI l yX5_walker wsX5_walker ({ frames := 2, cells := 0, slots := 0, locals := 42 }) [.ref h, .int (nI w), .int v] G ca (moT ca h a M) (moT ca h a M) (-2) := by
  refine CtI.ofW (cc := cX5_walker) (maxL := 3) (rt := .int) (by decide) rfl (Nat.le_of_ble_eq_true rfl) rfl ?_
  intro pr en s m be me c A ls Q H hx hb hml hts hown hev hP hD hA hS hl hret
  have hown : s.vm.findClass RX5 = some m.cls := hown
  have hl : lv_has ls 3 [(0, .ref h), (1, .int (nI w)), (2, .int v)] := hl
  have in_wsX50 : ∀ w ∈ wsX50, w ∈ wsX5_walker := fun _ h => List.mem_cons_of_mem _ (List.mem_append_right _ h)
  refine lv_iload_n hx hb dX5_walker_0 rfl (lv_at hl 1 rfl) ?_
  refine goI0 (va_runS (As := [.int (nI w)]) (rest := []) ⟨hx, hb, hml, hown, hts⟩ (CtI.use (c_X5_isWalker l G ca (nI w)) H.size) (va_cwS 1 hts gX5_walker_X5_isWalker rfl rfl rfl (by decide +kernel) ⟨Nat.le_of_ble_eq_true rfl, Nat.le_of_ble_eq_true rfl⟩) (pcW_S hev P_nil (D_nil (A := A))) rfl rfl hl.1 rfl (lv_room (Nat.le_of_ble_eq_true rfl)) dX5_walker_1 ⟨Nat.zero_le _, Nat.zero_le _⟩) hP hS hA (fun H locs hP hS => ?_)
  refine lv_eqi (y := 1) (by exact inC_w (by omega)) ?_
  refine lv_if_ne (tgt := 9) hx hb dX5_walker_4 (by decide) (fun c_1 => ?_) (fun c_1 => ?_)
  · skip
    refine lv_iload_n hx hb dX5_walker_9 rfl (lv_at hl 2 rfl) ?_
    refine lv_tableOut (tgt := 73) hx hb dX5_walker_10 hv (by decide) ?_
    refine lv_bipush (v := (-2)) hx hb dX5_walker_73 (by decide) ?_
    exact hret _ _ _ _ hP hS dX5_walker_75
  · skip
    exact absurd c_1 (by decide)
set_option maxHeartbeats 4000000 in
set_option maxRecDepth 100000 in
theorem c_X5_why_outw (l : Launch) (G : va_G) (ca : Nat → ClassId) (h : Nat) (a : Nat → Nat) (M : MM) (x : Int32) (v : Int32) (hx0 : x < 0 ∨ nI 6 ≤ x) : CtI l yX5_why wsX5_why ({ frames := 2, cells := 0, slots := 0, locals := 42 }) [.ref h, .int x, .int v] G ca (moT ca h a M) (moT ca h a M) (-1) := by
  refine CtI.ofW (cc := cX5_why) (maxL := 3) (rt := .int) (by decide) rfl (Nat.le_of_ble_eq_true rfl) rfl ?_
  intro pr en s m be me c A ls Q H hx hb hml hts hown hev hP hD hA hS hl hret
  have hown : s.vm.findClass RX5 = some m.cls := hown
  have hl : lv_has ls 3 [(0, .ref h), (1, .int x), (2, .int v)] := hl
  have in_wsX50 : ∀ w ∈ wsX50, w ∈ wsX5_why := fun _ h => List.mem_cons_of_mem _ (List.mem_append_right _ h)
  refine lv_iload_n hx hb dX5_why_0 rfl (lv_at hl 1 rfl) ?_
  refine goI0 (va_runS (As := [.int x]) (rest := []) ⟨hx, hb, hml, hown, hts⟩ (CtI.use (c_X5_isWalker l G ca x) H.size) (va_cwS 1 hts gX5_why_X5_isWalker rfl rfl rfl (by decide +kernel) ⟨Nat.le_of_ble_eq_true rfl, Nat.le_of_ble_eq_true rfl⟩) (pcW_S hev P_nil (D_nil (A := A))) rfl rfl hl.1 rfl (lv_room (Nat.le_of_ble_eq_true rfl)) dX5_why_1 ⟨Nat.zero_le _, Nat.zero_le _⟩) hP hS hA (fun H locs hP hS => ?_)
  refine lv_eqi (y := 0) (by exact inC_wo hx0) ?_
  refine lv_if_eq (tgt := 23) hx hb dX5_why_4 (by decide) (fun c_1 => ?_) (fun c_1 => ?_)
  · skip
    refine lv_iconst (v := (-1)) hx hb dX5_why_23 (by decide) ?_
    exact hret _ _ _ _ hP hS dX5_why_24
  · skip
    exact absurd (by decide) c_1
set_option maxHeartbeats 4000000 in
set_option maxRecDepth 100000 in
theorem c_X5_why_outp (l : Launch) (G : va_G) (ca : Nat → ClassId) (h : Nat) (a : Nat → Nat) (M : MM) (w : Nat) (x : Int32) (hw : w < 6) (hx0 : x < 0 ∨ nI 12 ≤ x) : CtI l yX5_why wsX5_why ({ frames := 2, cells := 0, slots := 0, locals := 42 }) [.ref h, .int (nI w), .int x] G ca (moT ca h a M) (moT ca h a M) (-1) := by
  refine CtI.ofW (cc := cX5_why) (maxL := 3) (rt := .int) (by decide) rfl (Nat.le_of_ble_eq_true rfl) rfl ?_
  intro pr en s m be me c A ls Q H hx hb hml hts hown hev hP hD hA hS hl hret
  have hown : s.vm.findClass RX5 = some m.cls := hown
  have hl : lv_has ls 3 [(0, .ref h), (1, .int (nI w)), (2, .int x)] := hl
  have in_wsX50 : ∀ w ∈ wsX50, w ∈ wsX5_why := fun _ h => List.mem_cons_of_mem _ (List.mem_append_right _ h)
  refine lv_iload_n hx hb dX5_why_0 rfl (lv_at hl 1 rfl) ?_
  refine goI0 (va_runS (As := [.int (nI w)]) (rest := []) ⟨hx, hb, hml, hown, hts⟩ (CtI.use (c_X5_isWalker l G ca (nI w)) H.size) (va_cwS 1 hts gX5_why_X5_isWalker rfl rfl rfl (by decide +kernel) ⟨Nat.le_of_ble_eq_true rfl, Nat.le_of_ble_eq_true rfl⟩) (pcW_S hev P_nil (D_nil (A := A))) rfl rfl hl.1 rfl (lv_room (Nat.le_of_ble_eq_true rfl)) dX5_why_1 ⟨Nat.zero_le _, Nat.zero_le _⟩) hP hS hA (fun H locs hP hS => ?_)
  refine lv_eqi (y := 1) (by exact inC_w (by omega)) ?_
  refine lv_if_eq (tgt := 23) hx hb dX5_why_4 (by decide) (fun c_1 => ?_) (fun c_1 => ?_)
  · skip
    exact absurd c_1 (by decide)
  · skip
    refine lv_iload_n hx hb dX5_why_7 rfl (lv_at hl 2 rfl) ?_
    refine goI0 (va_runS (As := [.int x]) (rest := []) ⟨hx, hb, hml, hown, hts⟩ (CtI.use (c_X5_isPuddle l G ca x) H.size) (va_cwS 1 hts gX5_why_X5_isPuddle rfl rfl rfl (by decide +kernel) ⟨Nat.le_of_ble_eq_true rfl, Nat.le_of_ble_eq_true rfl⟩) (pcW_S hev P_nil (D_nil (A := A))) rfl rfl hl.1 rfl (lv_room (Nat.le_of_ble_eq_true rfl)) dX5_why_8 ⟨Nat.zero_le _, Nat.zero_le _⟩) hP hS hA (fun H locs hP hS => ?_)
    refine lv_eqi (y := 0) (by exact inC_po hx0) ?_
    refine lv_if_eq (tgt := 23) hx hb dX5_why_11 (by decide) (fun c_2 => ?_) (fun c_2 => ?_)
    · skip
      refine lv_iconst (v := (-1)) hx hb dX5_why_23 (by decide) ?_
      exact hret _ _ _ _ hP hS dX5_why_24
    · skip
      exact absurd (by decide) c_2
set_option maxHeartbeats 4000000 in
set_option maxRecDepth 100000 in
theorem c_X5_holds_outw (l : Launch) (G : va_G) (ca : Nat → ClassId) (h : Nat) (a : Nat → Nat) (M : MM) (x : Int32) (v : Int32) (hx0 : x < 0 ∨ nI 6 ≤ x) : CtI l yX5_holds wsX5_holds ({ frames := 2, cells := 0, slots := 0, locals := 42 }) [.ref h, .int x, .int v] G ca (moT ca h a M) (moT ca h a M) (-1) := by
  refine CtI.ofW (cc := cX5_holds) (maxL := 3) (rt := .int) (by decide) rfl (Nat.le_of_ble_eq_true rfl) rfl ?_
  intro pr en s m be me c A ls Q H hx hb hml hts hown hev hP hD hA hS hl hret
  have hown : s.vm.findClass RX5 = some m.cls := hown
  have hl : lv_has ls 3 [(0, .ref h), (1, .int x), (2, .int v)] := hl
  have in_wsX50 : ∀ w ∈ wsX50, w ∈ wsX5_holds := fun _ h => List.mem_cons_of_mem _ (List.mem_append_right _ h)
  refine lv_iload_n hx hb dX5_holds_0 rfl (lv_at hl 1 rfl) ?_
  refine goI0 (va_runS (As := [.int x]) (rest := []) ⟨hx, hb, hml, hown, hts⟩ (CtI.use (c_X5_isWalker l G ca x) H.size) (va_cwS 1 hts gX5_holds_X5_isWalker rfl rfl rfl (by decide +kernel) ⟨Nat.le_of_ble_eq_true rfl, Nat.le_of_ble_eq_true rfl⟩) (pcW_S hev P_nil (D_nil (A := A))) rfl rfl hl.1 rfl (lv_room (Nat.le_of_ble_eq_true rfl)) dX5_holds_1 ⟨Nat.zero_le _, Nat.zero_le _⟩) hP hS hA (fun H locs hP hS => ?_)
  refine lv_eqi (y := 0) (by exact inC_wo hx0) ?_
  refine lv_if_eq (tgt := 14) hx hb dX5_holds_4 (by decide) (fun c_1 => ?_) (fun c_1 => ?_)
  · skip
    refine lv_iconst (v := (-1)) hx hb dX5_holds_14 (by decide) ?_
    exact hret _ _ _ _ hP hS dX5_holds_15
  · skip
    exact absurd (by decide) c_1
set_option maxHeartbeats 4000000 in
set_option maxRecDepth 100000 in
theorem c_X5_holds_outp (l : Launch) (G : va_G) (ca : Nat → ClassId) (h : Nat) (a : Nat → Nat) (M : MM) (w : Nat) (x : Int32) (hw : w < 6) (hx0 : x < 0 ∨ nI 12 ≤ x) : CtI l yX5_holds wsX5_holds ({ frames := 2, cells := 0, slots := 0, locals := 42 }) [.ref h, .int (nI w), .int x] G ca (moT ca h a M) (moT ca h a M) (-1) := by
  refine CtI.ofW (cc := cX5_holds) (maxL := 3) (rt := .int) (by decide) rfl (Nat.le_of_ble_eq_true rfl) rfl ?_
  intro pr en s m be me c A ls Q H hx hb hml hts hown hev hP hD hA hS hl hret
  have hown : s.vm.findClass RX5 = some m.cls := hown
  have hl : lv_has ls 3 [(0, .ref h), (1, .int (nI w)), (2, .int x)] := hl
  have in_wsX50 : ∀ w ∈ wsX50, w ∈ wsX5_holds := fun _ h => List.mem_cons_of_mem _ (List.mem_append_right _ h)
  refine lv_iload_n hx hb dX5_holds_0 rfl (lv_at hl 1 rfl) ?_
  refine goI0 (va_runS (As := [.int (nI w)]) (rest := []) ⟨hx, hb, hml, hown, hts⟩ (CtI.use (c_X5_isWalker l G ca (nI w)) H.size) (va_cwS 1 hts gX5_holds_X5_isWalker rfl rfl rfl (by decide +kernel) ⟨Nat.le_of_ble_eq_true rfl, Nat.le_of_ble_eq_true rfl⟩) (pcW_S hev P_nil (D_nil (A := A))) rfl rfl hl.1 rfl (lv_room (Nat.le_of_ble_eq_true rfl)) dX5_holds_1 ⟨Nat.zero_le _, Nat.zero_le _⟩) hP hS hA (fun H locs hP hS => ?_)
  refine lv_eqi (y := 1) (by exact inC_w (by omega)) ?_
  refine lv_if_eq (tgt := 14) hx hb dX5_holds_4 (by decide) (fun c_1 => ?_) (fun c_1 => ?_)
  · skip
    exact absurd c_1 (by decide)
  · skip
    refine lv_iload_n hx hb dX5_holds_7 rfl (lv_at hl 2 rfl) ?_
    refine goI0 (va_runS (As := [.int x]) (rest := []) ⟨hx, hb, hml, hown, hts⟩ (CtI.use (c_X5_isPuddle l G ca x) H.size) (va_cwS 1 hts gX5_holds_X5_isPuddle rfl rfl rfl (by decide +kernel) ⟨Nat.le_of_ble_eq_true rfl, Nat.le_of_ble_eq_true rfl⟩) (pcW_S hev P_nil (D_nil (A := A))) rfl rfl hl.1 rfl (lv_room (Nat.le_of_ble_eq_true rfl)) dX5_holds_8 ⟨Nat.zero_le _, Nat.zero_le _⟩) hP hS hA (fun H locs hP hS => ?_)
    refine lv_eqi (y := 0) (by exact inC_po hx0) ?_
    refine lv_if_ne (tgt := 16) hx hb dX5_holds_11 (by decide) (fun c_2 => ?_) (fun c_2 => ?_)
    · skip
      exact absurd (by decide) c_2
    · skip
      refine lv_iconst (v := (-1)) hx hb dX5_holds_14 (by decide) ?_
      exact hret _ _ _ _ hP hS dX5_holds_15
set_option maxHeartbeats 4000000 in
set_option maxRecDepth 100000 in
theorem c_X5_why_ok (l : Launch) (G : va_G) (ca : Nat → ClassId) (h : Nat) (a : Nat → Nat) (M : MM) (w : Nat) (p : Nat) (hw : w < 6) (hp1 : p < 12) : CtI l yX5_why wsX5_why ({ frames := 4, cells := 0, slots := 0, locals := 89 }) [.ref h, .int (nI w), .int (nI p)] G ca (moT ca h a M) (moT ca h a M) (zRn (m_z M) w p) := by
  refine CtI.ofW (cc := cX5_why) (maxL := 3) (rt := .int) (by decide) rfl (Nat.le_of_ble_eq_true rfl) rfl ?_
  intro pr en s m be me c A ls Q H hx hb hml hts hown hev hP hD hA hS hl hret
  have hown : s.vm.findClass RX5 = some m.cls := hown
  have hl : lv_has ls 3 [(0, .ref h), (1, .int (nI w)), (2, .int (nI p))] := hl
  have in_wsX50 : ∀ w ∈ wsX50, w ∈ wsX5_why := fun _ h => List.mem_cons_of_mem _ (List.mem_append_right _ h)
  refine lv_iload_n hx hb dX5_why_0 rfl (lv_at hl 1 rfl) ?_
  refine goI0 (va_runS (As := [.int (nI w)]) (rest := []) ⟨hx, hb, hml, hown, hts⟩ (CtI.use (c_X5_isWalker l G ca (nI w)) H.size) (va_cwS 1 hts gX5_why_X5_isWalker rfl rfl rfl (by decide +kernel) ⟨Nat.le_of_ble_eq_true rfl, Nat.le_of_ble_eq_true rfl⟩) (pcW_S hev P_nil (D_nil (A := A))) rfl rfl hl.1 rfl (lv_room (Nat.le_of_ble_eq_true rfl)) dX5_why_1 ⟨Nat.zero_le _, Nat.zero_le _⟩) hP hS hA (fun H locs hP hS => ?_)
  refine lv_eqi (y := 1) (by exact inC_w (by omega)) ?_
  refine lv_if_eq (tgt := 23) hx hb dX5_why_4 (by decide) (fun c_1 => ?_) (fun c_1 => ?_)
  · skip
    exact absurd c_1 (by decide)
  · skip
    refine lv_iload_n hx hb dX5_why_7 rfl (lv_at hl 2 rfl) ?_
    refine goI0 (va_runS (As := [.int (nI p)]) (rest := []) ⟨hx, hb, hml, hown, hts⟩ (CtI.use (c_X5_isPuddle l G ca (nI p)) H.size) (va_cwS 1 hts gX5_why_X5_isPuddle rfl rfl rfl (by decide +kernel) ⟨Nat.le_of_ble_eq_true rfl, Nat.le_of_ble_eq_true rfl⟩) (pcW_S hev P_nil (D_nil (A := A))) rfl rfl hl.1 rfl (lv_room (Nat.le_of_ble_eq_true rfl)) dX5_why_8 ⟨Nat.zero_le _, Nat.zero_le _⟩) hP hS hA (fun H locs hP hS => ?_)
    refine lv_eqi (y := 1) (by exact inC_p (by omega)) ?_
    refine lv_if_eq (tgt := 23) hx hb dX5_why_11 (by decide) (fun c_2 => ?_) (fun c_2 => ?_)
    · skip
      exact absurd c_2 (by decide)
    · skip
      refine lv_aload_n hx hb dX5_why_14 rfl (lv_at hl 0 rfl) ?_
      refine lv_iload_n hx hb dX5_why_15 rfl (lv_at hl 1 rfl) ?_
      refine lv_iload_n hx hb dX5_why_16 rfl (lv_at hl 2 rfl) ?_
      refine goIw (va_runV (As := [.int (nI w), .int (nI p)]) (rest := []) ⟨hx, hb, hml, hown, hts⟩ (CtI.use (c_X5_reasonNow l G ca h a M w p (by omega) (by omega)) H.size) (cwV 2 hts gX5_why_X5_reasonNow rfl rfl rfl (by decide +kernel) ⟨Nat.le_of_ble_eq_true rfl, Nat.le_of_ble_eq_true rfl⟩) (pcW_V hev hP hD (q0 := 0) rfl rfl rfl) rfl rfl hl.1 rfl (lv_room (Nat.le_of_ble_eq_true rfl)) dX5_why_17 ⟨Nat.zero_le _, Nat.zero_le _⟩) hD hS hA moF (fun H locs hP hD hS => ?_)
      refine lv_goto (tgt := 24) hx hb dX5_why_20 (by decide) ?_
      exact hret _ _ _ _ hP hS dX5_why_24
set_option maxHeartbeats 4000000 in
set_option maxRecDepth 100000 in
theorem c_X5_holds_ok (l : Launch) (G : va_G) (ca : Nat → ClassId) (h : Nat) (a : Nat → Nat) (M : MM) (w : Nat) (p : Nat) (hw : w < 6) (hp1 : p < 12) : CtI l yX5_holds wsX5_holds ({ frames := 2, cells := 0, slots := 0, locals := 42 }) [.ref h, .int (nI w), .int (nI p)] G ca (moT ca h a M) (moT ca h a M) (if m_z M (92 + 12 * w + p) ≤ 0 then (-6) else m_z M (92 + 12 * w + p)) := by
  refine CtI.ofW (cc := cX5_holds) (maxL := 3) (rt := .int) (by decide) rfl (Nat.le_of_ble_eq_true rfl) rfl ?_
  intro pr en s m be me c A ls Q H hx hb hml hts hown hev hP hD hA hS hl hret
  have hown : s.vm.findClass RX5 = some m.cls := hown
  have hl : lv_has ls 3 [(0, .ref h), (1, .int (nI w)), (2, .int (nI p))] := hl
  have in_wsX50 : ∀ w ∈ wsX50, w ∈ wsX5_holds := fun _ h => List.mem_cons_of_mem _ (List.mem_append_right _ h)
  refine lv_iload_n hx hb dX5_holds_0 rfl (lv_at hl 1 rfl) ?_
  refine goI0 (va_runS (As := [.int (nI w)]) (rest := []) ⟨hx, hb, hml, hown, hts⟩ (CtI.use (c_X5_isWalker l G ca (nI w)) H.size) (va_cwS 1 hts gX5_holds_X5_isWalker rfl rfl rfl (by decide +kernel) ⟨Nat.le_of_ble_eq_true rfl, Nat.le_of_ble_eq_true rfl⟩) (pcW_S hev P_nil (D_nil (A := A))) rfl rfl hl.1 rfl (lv_room (Nat.le_of_ble_eq_true rfl)) dX5_holds_1 ⟨Nat.zero_le _, Nat.zero_le _⟩) hP hS hA (fun H locs hP hS => ?_)
  refine lv_eqi (y := 1) (by exact inC_w (by omega)) ?_
  refine lv_if_eq (tgt := 14) hx hb dX5_holds_4 (by decide) (fun c_1 => ?_) (fun c_1 => ?_)
  · skip
    exact absurd c_1 (by decide)
  · skip
    refine lv_iload_n hx hb dX5_holds_7 rfl (lv_at hl 2 rfl) ?_
    refine goI0 (va_runS (As := [.int (nI p)]) (rest := []) ⟨hx, hb, hml, hown, hts⟩ (CtI.use (c_X5_isPuddle l G ca (nI p)) H.size) (va_cwS 1 hts gX5_holds_X5_isPuddle rfl rfl rfl (by decide +kernel) ⟨Nat.le_of_ble_eq_true rfl, Nat.le_of_ble_eq_true rfl⟩) (pcW_S hev P_nil (D_nil (A := A))) rfl rfl hl.1 rfl (lv_room (Nat.le_of_ble_eq_true rfl)) dX5_holds_8 ⟨Nat.zero_le _, Nat.zero_le _⟩) hP hS hA (fun H locs hP hS => ?_)
    refine lv_eqi (y := 1) (by exact inC_p (by omega)) ?_
    refine lv_if_ne (tgt := 16) hx hb dX5_holds_11 (by decide) (fun c_2 => ?_) (fun c_2 => ?_)
    · skip
      refine lv_aload_n hx hb dX5_holds_16 rfl (lv_at hl 0 rfl) ?_
      refine lv_iload_n hx hb dX5_holds_17 rfl (lv_at hl 1 rfl) ?_
      refine lv_iload_n hx hb dX5_holds_18 rfl (lv_at hl 2 rfl) ?_
      refine goIw (va_runV (As := [.int (nI w), .int (nI p)]) (rest := []) ⟨hx, hb, hml, hown, hts⟩ (CtI.use (c_X5_days l G ca h a M w p (by omega) (by omega)) H.size) (cwV 2 hts gX5_holds_X5_days rfl rfl rfl (by decide +kernel) ⟨Nat.le_of_ble_eq_true rfl, Nat.le_of_ble_eq_true rfl⟩) (pcW_V hev hP hD (q0 := 0) rfl rfl rfl) rfl rfl hl.1 rfl (lv_room (Nat.le_of_ble_eq_true rfl)) dX5_holds_19 ⟨Nat.zero_le _, Nat.zero_le _⟩) hD hS hA moF (fun H locs hP hD hS => ?_)
      refine lv_eqi (y := (m_z M) (92 + 12 * w + p)) rfl ?_
      refine lv_if_le (tgt := 34) hx hb dX5_holds_22 (by decide) (fun c_3 => ?_) (fun c_3 => ?_)
      · skip
        refine lv_bipush (v := (-6)) hx hb dX5_holds_34 (by decide) ?_
        refine lv_eqi (y := if m_z M (92 + 12 * w + p) ≤ 0 then (-6) else m_z M (92 + 12 * w + p)) (by rw [if_pos c_3]) ?_
        exact hret _ _ _ _ hP hS dX5_holds_36
      · skip
        refine lv_aload_n hx hb dX5_holds_25 rfl (lv_at hl 0 rfl) ?_
        refine lv_iload_n hx hb dX5_holds_26 rfl (lv_at hl 1 rfl) ?_
        refine lv_iload_n hx hb dX5_holds_27 rfl (lv_at hl 2 rfl) ?_
        refine goIw (va_runV (As := [.int (nI w), .int (nI p)]) (rest := []) ⟨hx, hb, hml, hown, hts⟩ (CtI.use (c_X5_days l G ca h a M w p (by omega) (by omega)) H.size) (cwV 2 hts gX5_holds_X5_days rfl rfl rfl (by decide +kernel) ⟨Nat.le_of_ble_eq_true rfl, Nat.le_of_ble_eq_true rfl⟩) (pcW_V hev hP hD (q0 := 0) rfl rfl rfl) rfl rfl hl.1 rfl (lv_room (Nat.le_of_ble_eq_true rfl)) dX5_holds_28 ⟨Nat.zero_le _, Nat.zero_le _⟩) hD hS hA moF (fun H locs hP hD hS => ?_)
        refine lv_eqi (y := (m_z M) (92 + 12 * w + p)) rfl ?_
        refine lv_goto (tgt := 36) hx hb dX5_holds_31 (by decide) ?_
        refine lv_eqi (y := if m_z M (92 + 12 * w + p) ≤ 0 then (-6) else m_z M (92 + 12 * w + p)) (by rw [if_neg c_3]) ?_
        exact hret _ _ _ _ hP hS dX5_holds_36
    · skip
      exact absurd c_2 (by decide)
set_option maxHeartbeats 4000000 in
set_option maxRecDepth 100000 in
theorem c_X5_count_0 (l : Launch) (G : va_G) (ca : Nat → ClassId) (h : Nat) (a : Nat → Nat) (M : MM) : CtI l yX5_count wsX5_count ({ frames := 0, cells := 0, slots := 0, locals := 0 }) [.ref h, .int (nI 0)] G ca (moT ca h a M) (moT ca h a M) (m_z M 0) := by
  refine CtI.ofW (cc := cX5_count) (maxL := 2) (rt := .int) (by decide) rfl (Nat.le_of_ble_eq_true rfl) rfl ?_
  intro pr en s m be me c A ls Q H hx hb hml hts hown hev hP hD hA hS hl hret
  have hown : s.vm.findClass RX5 = some m.cls := hown
  have hl : lv_has ls 2 [(0, .ref h), (1, .int (nI 0))] := hl
  have in_wsX50 : ∀ w ∈ wsX50, w ∈ wsX5_count := fun _ h => List.mem_cons_of_mem _ (List.mem_append_right _ h)
  refine lv_iload_n hx hb dX5_count_0 rfl (lv_at hl 1 rfl) ?_
  refine lv_tableIn (off := 79) (tgt := 80) hx hb dX5_count_1 (by decide) (by decide) (by decide +kernel) (by decide) ?_
  refine lv_aload_n hx hb dX5_count_80 rfl (lv_at hl 0 rfl) ?_
  refine va_get (D := G) (ci := 5) (v := .ref (a 0)) (C := RX5) (T := TX5) (N := 10) hx hb hts in_wsX50 hown hev.1 hP 0 rfl rfl 0 (by decide) (hts (.fieldLink RX5 7 "PuddleMinistriesModel" "z" "[I") (List.mem_of_getElem? (i := 1) rfl)) (fun _ h9 => h9) rfl dX5_count_81 ?_
  refine lv_iload_n hx hb dX5_count_84 rfl (lv_at hl 1 rfl) ?_
  refine b_iald hx hb hev.1 hP 1 rfl rfl (j := 0) (by omega) (by decide) dX5_count_85 ?_
  refine lv_eqi (y := m_z M 0) rfl ?_
  exact hret _ _ _ _ hP hS dX5_count_86
set_option maxHeartbeats 4000000 in
set_option maxRecDepth 100000 in
theorem c_X5_count_1 (l : Launch) (G : va_G) (ca : Nat → ClassId) (h : Nat) (a : Nat → Nat) (M : MM) : CtI l yX5_count wsX5_count ({ frames := 0, cells := 0, slots := 0, locals := 0 }) [.ref h, .int (nI 1)] G ca (moT ca h a M) (moT ca h a M) (m_z M 1) := by
  refine CtI.ofW (cc := cX5_count) (maxL := 2) (rt := .int) (by decide) rfl (Nat.le_of_ble_eq_true rfl) rfl ?_
  intro pr en s m be me c A ls Q H hx hb hml hts hown hev hP hD hA hS hl hret
  have hown : s.vm.findClass RX5 = some m.cls := hown
  have hl : lv_has ls 2 [(0, .ref h), (1, .int (nI 1))] := hl
  have in_wsX50 : ∀ w ∈ wsX50, w ∈ wsX5_count := fun _ h => List.mem_cons_of_mem _ (List.mem_append_right _ h)
  refine lv_iload_n hx hb dX5_count_0 rfl (lv_at hl 1 rfl) ?_
  refine lv_tableIn (off := 79) (tgt := 80) hx hb dX5_count_1 (by decide) (by decide) (by decide +kernel) (by decide) ?_
  refine lv_aload_n hx hb dX5_count_80 rfl (lv_at hl 0 rfl) ?_
  refine va_get (D := G) (ci := 5) (v := .ref (a 0)) (C := RX5) (T := TX5) (N := 10) hx hb hts in_wsX50 hown hev.1 hP 0 rfl rfl 0 (by decide) (hts (.fieldLink RX5 7 "PuddleMinistriesModel" "z" "[I") (List.mem_of_getElem? (i := 1) rfl)) (fun _ h9 => h9) rfl dX5_count_81 ?_
  refine lv_iload_n hx hb dX5_count_84 rfl (lv_at hl 1 rfl) ?_
  refine b_iald hx hb hev.1 hP 1 rfl rfl (j := 1) (by omega) (by decide) dX5_count_85 ?_
  refine lv_eqi (y := m_z M 1) rfl ?_
  exact hret _ _ _ _ hP hS dX5_count_86
set_option maxHeartbeats 4000000 in
set_option maxRecDepth 100000 in
theorem c_X5_count_2 (l : Launch) (G : va_G) (ca : Nat → ClassId) (h : Nat) (a : Nat → Nat) (M : MM) : CtI l yX5_count wsX5_count ({ frames := 0, cells := 0, slots := 0, locals := 0 }) [.ref h, .int (nI 2)] G ca (moT ca h a M) (moT ca h a M) (m_z M 2) := by
  refine CtI.ofW (cc := cX5_count) (maxL := 2) (rt := .int) (by decide) rfl (Nat.le_of_ble_eq_true rfl) rfl ?_
  intro pr en s m be me c A ls Q H hx hb hml hts hown hev hP hD hA hS hl hret
  have hown : s.vm.findClass RX5 = some m.cls := hown
  have hl : lv_has ls 2 [(0, .ref h), (1, .int (nI 2))] := hl
  have in_wsX50 : ∀ w ∈ wsX50, w ∈ wsX5_count := fun _ h => List.mem_cons_of_mem _ (List.mem_append_right _ h)
  refine lv_iload_n hx hb dX5_count_0 rfl (lv_at hl 1 rfl) ?_
  refine lv_tableIn (off := 79) (tgt := 80) hx hb dX5_count_1 (by decide) (by decide) (by decide +kernel) (by decide) ?_
  refine lv_aload_n hx hb dX5_count_80 rfl (lv_at hl 0 rfl) ?_
  refine va_get (D := G) (ci := 5) (v := .ref (a 0)) (C := RX5) (T := TX5) (N := 10) hx hb hts in_wsX50 hown hev.1 hP 0 rfl rfl 0 (by decide) (hts (.fieldLink RX5 7 "PuddleMinistriesModel" "z" "[I") (List.mem_of_getElem? (i := 1) rfl)) (fun _ h9 => h9) rfl dX5_count_81 ?_
  refine lv_iload_n hx hb dX5_count_84 rfl (lv_at hl 1 rfl) ?_
  refine b_iald hx hb hev.1 hP 1 rfl rfl (j := 2) (by omega) (by decide) dX5_count_85 ?_
  refine lv_eqi (y := m_z M 2) rfl ?_
  exact hret _ _ _ _ hP hS dX5_count_86
set_option maxHeartbeats 4000000 in
set_option maxRecDepth 100000 in
theorem c_X5_count_3 (l : Launch) (G : va_G) (ca : Nat → ClassId) (h : Nat) (a : Nat → Nat) (M : MM) : CtI l yX5_count wsX5_count ({ frames := 0, cells := 0, slots := 0, locals := 0 }) [.ref h, .int (nI 3)] G ca (moT ca h a M) (moT ca h a M) (m_z M 3) := by
  refine CtI.ofW (cc := cX5_count) (maxL := 2) (rt := .int) (by decide) rfl (Nat.le_of_ble_eq_true rfl) rfl ?_
  intro pr en s m be me c A ls Q H hx hb hml hts hown hev hP hD hA hS hl hret
  have hown : s.vm.findClass RX5 = some m.cls := hown
  have hl : lv_has ls 2 [(0, .ref h), (1, .int (nI 3))] := hl
  have in_wsX50 : ∀ w ∈ wsX50, w ∈ wsX5_count := fun _ h => List.mem_cons_of_mem _ (List.mem_append_right _ h)
  refine lv_iload_n hx hb dX5_count_0 rfl (lv_at hl 1 rfl) ?_
  refine lv_tableIn (off := 79) (tgt := 80) hx hb dX5_count_1 (by decide) (by decide) (by decide +kernel) (by decide) ?_
  refine lv_aload_n hx hb dX5_count_80 rfl (lv_at hl 0 rfl) ?_
  refine va_get (D := G) (ci := 5) (v := .ref (a 0)) (C := RX5) (T := TX5) (N := 10) hx hb hts in_wsX50 hown hev.1 hP 0 rfl rfl 0 (by decide) (hts (.fieldLink RX5 7 "PuddleMinistriesModel" "z" "[I") (List.mem_of_getElem? (i := 1) rfl)) (fun _ h9 => h9) rfl dX5_count_81 ?_
  refine lv_iload_n hx hb dX5_count_84 rfl (lv_at hl 1 rfl) ?_
  refine b_iald hx hb hev.1 hP 1 rfl rfl (j := 3) (by omega) (by decide) dX5_count_85 ?_
  refine lv_eqi (y := m_z M 3) rfl ?_
  exact hret _ _ _ _ hP hS dX5_count_86
set_option maxHeartbeats 4000000 in
set_option maxRecDepth 100000 in
theorem c_X5_count_4 (l : Launch) (G : va_G) (ca : Nat → ClassId) (h : Nat) (a : Nat → Nat) (M : MM) : CtI l yX5_count wsX5_count ({ frames := 0, cells := 0, slots := 0, locals := 0 }) [.ref h, .int (nI 4)] G ca (moT ca h a M) (moT ca h a M) (m_z M 4) := by
  refine CtI.ofW (cc := cX5_count) (maxL := 2) (rt := .int) (by decide) rfl (Nat.le_of_ble_eq_true rfl) rfl ?_
  intro pr en s m be me c A ls Q H hx hb hml hts hown hev hP hD hA hS hl hret
  have hown : s.vm.findClass RX5 = some m.cls := hown
  have hl : lv_has ls 2 [(0, .ref h), (1, .int (nI 4))] := hl
  have in_wsX50 : ∀ w ∈ wsX50, w ∈ wsX5_count := fun _ h => List.mem_cons_of_mem _ (List.mem_append_right _ h)
  refine lv_iload_n hx hb dX5_count_0 rfl (lv_at hl 1 rfl) ?_
  refine lv_tableIn (off := 79) (tgt := 80) hx hb dX5_count_1 (by decide) (by decide) (by decide +kernel) (by decide) ?_
  refine lv_aload_n hx hb dX5_count_80 rfl (lv_at hl 0 rfl) ?_
  refine va_get (D := G) (ci := 5) (v := .ref (a 0)) (C := RX5) (T := TX5) (N := 10) hx hb hts in_wsX50 hown hev.1 hP 0 rfl rfl 0 (by decide) (hts (.fieldLink RX5 7 "PuddleMinistriesModel" "z" "[I") (List.mem_of_getElem? (i := 1) rfl)) (fun _ h9 => h9) rfl dX5_count_81 ?_
  refine lv_iload_n hx hb dX5_count_84 rfl (lv_at hl 1 rfl) ?_
  refine b_iald hx hb hev.1 hP 1 rfl rfl (j := 4) (by omega) (by decide) dX5_count_85 ?_
  refine lv_eqi (y := m_z M 4) rfl ?_
  exact hret _ _ _ _ hP hS dX5_count_86
set_option maxHeartbeats 4000000 in
set_option maxRecDepth 100000 in
theorem c_X5_count_5 (l : Launch) (G : va_G) (ca : Nat → ClassId) (h : Nat) (a : Nat → Nat) (M : MM) : CtI l yX5_count wsX5_count ({ frames := 2, cells := 0, slots := 0, locals := 44 }) [.ref h, .int (nI 5)] G ca (moT ca h a M) (moT ca h a M) (smD (fun p => m_z M (8 + 5 * p + 1)) 12) := by
  refine CtI.ofW (cc := cX5_count) (maxL := 2) (rt := .int) (by decide) rfl (Nat.le_of_ble_eq_true rfl) rfl ?_
  intro pr en s m be me c A ls Q H hx hb hml hts hown hev hP hD hA hS hl hret
  have hown : s.vm.findClass RX5 = some m.cls := hown
  have hl : lv_has ls 2 [(0, .ref h), (1, .int (nI 5))] := hl
  have in_wsX50 : ∀ w ∈ wsX50, w ∈ wsX5_count := fun _ h => List.mem_cons_of_mem _ (List.mem_append_right _ h)
  refine lv_iload_n hx hb dX5_count_0 rfl (lv_at hl 1 rfl) ?_
  refine lv_tableIn (off := 86) (tgt := 87) hx hb dX5_count_1 (by decide) (by decide) (by decide +kernel) (by decide) ?_
  refine lv_aload_n hx hb dX5_count_87 rfl (lv_at hl 0 rfl) ?_
  refine goIw (va_runV (As := []) (rest := []) ⟨hx, hb, hml, hown, hts⟩ (CtI.use (c_X5_water l G ca h a M) H.size) (cwV 0 hts gX5_count_X5_water rfl rfl rfl (by decide +kernel) ⟨Nat.le_of_ble_eq_true rfl, Nat.le_of_ble_eq_true rfl⟩) (pcW_V hev hP hD (q0 := 0) rfl rfl rfl) rfl rfl hl.1 rfl (lv_room (Nat.le_of_ble_eq_true rfl)) dX5_count_88 ⟨Nat.zero_le _, Nat.zero_le _⟩) hD hS hA moF (fun H locs hP hD hS => ?_)
  refine lv_eqi (y := smD (fun p => (m_z M) (8 + 5 * p + 1)) 12) rfl ?_
  refine lv_eqi (y := smD (fun p => m_z M (8 + 5 * p + 1)) 12) rfl ?_
  exact hret _ _ _ _ hP hS dX5_count_91
set_option maxHeartbeats 4000000 in
set_option maxRecDepth 100000 in
theorem c_X5_count_6 (l : Launch) (G : va_G) (ca : Nat → ClassId) (h : Nat) (a : Nat → Nat) (M : MM) : CtI l yX5_count wsX5_count ({ frames := 0, cells := 0, slots := 0, locals := 0 }) [.ref h, .int (nI 6)] G ca (moT ca h a M) (moT ca h a M) (m_z M 5) := by
  refine CtI.ofW (cc := cX5_count) (maxL := 2) (rt := .int) (by decide) rfl (Nat.le_of_ble_eq_true rfl) rfl ?_
  intro pr en s m be me c A ls Q H hx hb hml hts hown hev hP hD hA hS hl hret
  have hown : s.vm.findClass RX5 = some m.cls := hown
  have hl : lv_has ls 2 [(0, .ref h), (1, .int (nI 6))] := hl
  have in_wsX50 : ∀ w ∈ wsX50, w ∈ wsX5_count := fun _ h => List.mem_cons_of_mem _ (List.mem_append_right _ h)
  refine lv_iload_n hx hb dX5_count_0 rfl (lv_at hl 1 rfl) ?_
  refine lv_tableIn (off := 91) (tgt := 92) hx hb dX5_count_1 (by decide) (by decide) (by decide +kernel) (by decide) ?_
  refine lv_aload_n hx hb dX5_count_92 rfl (lv_at hl 0 rfl) ?_
  refine va_get (D := G) (ci := 5) (v := .ref (a 0)) (C := RX5) (T := TX5) (N := 10) hx hb hts in_wsX50 hown hev.1 hP 0 rfl rfl 0 (by decide) (hts (.fieldLink RX5 7 "PuddleMinistriesModel" "z" "[I") (List.mem_of_getElem? (i := 1) rfl)) (fun _ h9 => h9) rfl dX5_count_93 ?_
  refine lv_iconst (v := nI 5) hx hb dX5_count_96 (by decide) ?_
  refine lv_iload_n hx hb dX5_count_97 rfl (lv_at hl 1 rfl) ?_
  refine lv_iadd hx hb dX5_count_98 ?_
  refine lv_eqi (nI_add _ _) ?_
  refine lv_bipush (v := nI 6) hx hb dX5_count_99 (by decide) ?_
  refine lv_isub hx hb dX5_count_101 ?_
  refine lv_eqi (pk_sub (by omega)) ?_
  refine b_iald hx hb hev.1 hP 1 rfl rfl (j := ((5 + 6) - 6)) (by omega) (by decide) dX5_count_102 ?_
  refine lv_eqi (y := m_z M 5) rfl ?_
  exact hret _ _ _ _ hP hS dX5_count_103
set_option maxHeartbeats 4000000 in
set_option maxRecDepth 100000 in
theorem c_X5_count_7 (l : Launch) (G : va_G) (ca : Nat → ClassId) (h : Nat) (a : Nat → Nat) (M : MM) : CtI l yX5_count wsX5_count ({ frames := 0, cells := 0, slots := 0, locals := 0 }) [.ref h, .int (nI 7)] G ca (moT ca h a M) (moT ca h a M) (m_z M 6) := by
  refine CtI.ofW (cc := cX5_count) (maxL := 2) (rt := .int) (by decide) rfl (Nat.le_of_ble_eq_true rfl) rfl ?_
  intro pr en s m be me c A ls Q H hx hb hml hts hown hev hP hD hA hS hl hret
  have hown : s.vm.findClass RX5 = some m.cls := hown
  have hl : lv_has ls 2 [(0, .ref h), (1, .int (nI 7))] := hl
  have in_wsX50 : ∀ w ∈ wsX50, w ∈ wsX5_count := fun _ h => List.mem_cons_of_mem _ (List.mem_append_right _ h)
  refine lv_iload_n hx hb dX5_count_0 rfl (lv_at hl 1 rfl) ?_
  refine lv_tableIn (off := 91) (tgt := 92) hx hb dX5_count_1 (by decide) (by decide) (by decide +kernel) (by decide) ?_
  refine lv_aload_n hx hb dX5_count_92 rfl (lv_at hl 0 rfl) ?_
  refine va_get (D := G) (ci := 5) (v := .ref (a 0)) (C := RX5) (T := TX5) (N := 10) hx hb hts in_wsX50 hown hev.1 hP 0 rfl rfl 0 (by decide) (hts (.fieldLink RX5 7 "PuddleMinistriesModel" "z" "[I") (List.mem_of_getElem? (i := 1) rfl)) (fun _ h9 => h9) rfl dX5_count_93 ?_
  refine lv_iconst (v := nI 5) hx hb dX5_count_96 (by decide) ?_
  refine lv_iload_n hx hb dX5_count_97 rfl (lv_at hl 1 rfl) ?_
  refine lv_iadd hx hb dX5_count_98 ?_
  refine lv_eqi (nI_add _ _) ?_
  refine lv_bipush (v := nI 6) hx hb dX5_count_99 (by decide) ?_
  refine lv_isub hx hb dX5_count_101 ?_
  refine lv_eqi (pk_sub (by omega)) ?_
  refine b_iald hx hb hev.1 hP 1 rfl rfl (j := ((5 + 7) - 6)) (by omega) (by decide) dX5_count_102 ?_
  refine lv_eqi (y := m_z M 6) rfl ?_
  exact hret _ _ _ _ hP hS dX5_count_103
set_option maxHeartbeats 4000000 in
set_option maxRecDepth 100000 in
theorem c_X5_count_8 (l : Launch) (G : va_G) (ca : Nat → ClassId) (h : Nat) (a : Nat → Nat) (M : MM) : CtI l yX5_count wsX5_count ({ frames := 0, cells := 0, slots := 0, locals := 0 }) [.ref h, .int (nI 8)] G ca (moT ca h a M) (moT ca h a M) (m_z M 7) := by
  refine CtI.ofW (cc := cX5_count) (maxL := 2) (rt := .int) (by decide) rfl (Nat.le_of_ble_eq_true rfl) rfl ?_
  intro pr en s m be me c A ls Q H hx hb hml hts hown hev hP hD hA hS hl hret
  have hown : s.vm.findClass RX5 = some m.cls := hown
  have hl : lv_has ls 2 [(0, .ref h), (1, .int (nI 8))] := hl
  have in_wsX50 : ∀ w ∈ wsX50, w ∈ wsX5_count := fun _ h => List.mem_cons_of_mem _ (List.mem_append_right _ h)
  refine lv_iload_n hx hb dX5_count_0 rfl (lv_at hl 1 rfl) ?_
  refine lv_tableIn (off := 91) (tgt := 92) hx hb dX5_count_1 (by decide) (by decide) (by decide +kernel) (by decide) ?_
  refine lv_aload_n hx hb dX5_count_92 rfl (lv_at hl 0 rfl) ?_
  refine va_get (D := G) (ci := 5) (v := .ref (a 0)) (C := RX5) (T := TX5) (N := 10) hx hb hts in_wsX50 hown hev.1 hP 0 rfl rfl 0 (by decide) (hts (.fieldLink RX5 7 "PuddleMinistriesModel" "z" "[I") (List.mem_of_getElem? (i := 1) rfl)) (fun _ h9 => h9) rfl dX5_count_93 ?_
  refine lv_iconst (v := nI 5) hx hb dX5_count_96 (by decide) ?_
  refine lv_iload_n hx hb dX5_count_97 rfl (lv_at hl 1 rfl) ?_
  refine lv_iadd hx hb dX5_count_98 ?_
  refine lv_eqi (nI_add _ _) ?_
  refine lv_bipush (v := nI 6) hx hb dX5_count_99 (by decide) ?_
  refine lv_isub hx hb dX5_count_101 ?_
  refine lv_eqi (pk_sub (by omega)) ?_
  refine b_iald hx hb hev.1 hP 1 rfl rfl (j := ((5 + 8) - 6)) (by omega) (by decide) dX5_count_102 ?_
  refine lv_eqi (y := m_z M 7) rfl ?_
  exact hret _ _ _ _ hP hS dX5_count_103
set_option maxHeartbeats 4000000 in
set_option maxRecDepth 100000 in
theorem c_X5_count_9 (l : Launch) (G : va_G) (ca : Nat → ClassId) (h : Nat) (a : Nat → Nat) (M : MM) : CtI l yX5_count wsX5_count ({ frames := 2, cells := 0, slots := 0, locals := 45 }) [.ref h, .int (nI 9)] G ca (moT ca h a M) (moT ca h a M) (orD (zWg (m_z M) 2) 12) := by
  refine CtI.ofW (cc := cX5_count) (maxL := 2) (rt := .int) (by decide) rfl (Nat.le_of_ble_eq_true rfl) rfl ?_
  intro pr en s m be me c A ls Q H hx hb hml hts hown hev hP hD hA hS hl hret
  have hown : s.vm.findClass RX5 = some m.cls := hown
  have hl : lv_has ls 2 [(0, .ref h), (1, .int (nI 9))] := hl
  have in_wsX50 : ∀ w ∈ wsX50, w ∈ wsX5_count := fun _ h => List.mem_cons_of_mem _ (List.mem_append_right _ h)
  refine lv_iload_n hx hb dX5_count_0 rfl (lv_at hl 1 rfl) ?_
  refine lv_tableIn (off := 103) (tgt := 104) hx hb dX5_count_1 (by decide) (by decide) (by decide +kernel) (by decide) ?_
  refine lv_aload_n hx hb dX5_count_104 rfl (lv_at hl 0 rfl) ?_
  refine lv_iconst (v := nI 2) hx hb dX5_count_105 (by decide) ?_
  refine lv_iload_n hx hb dX5_count_106 rfl (lv_at hl 1 rfl) ?_
  refine lv_iadd hx hb dX5_count_107 ?_
  refine lv_eqi (nI_add _ _) ?_
  refine lv_bipush (v := nI 9) hx hb dX5_count_108 (by decide) ?_
  refine lv_isub hx hb dX5_count_110 ?_
  refine lv_eqi (pk_sub (by omega)) ?_
  refine goIw (va_runV (As := [.int (nI ((2 + 9) - 9))]) (rest := []) ⟨hx, hb, hml, hown, hts⟩ (CtI.use (c_X5_puddlesWith l G ca h a M ((2 + 9) - 9) (by omega)) H.size) (cwV 1 hts gX5_count_X5_puddlesWith rfl rfl rfl (by decide +kernel) ⟨Nat.le_of_ble_eq_true rfl, Nat.le_of_ble_eq_true rfl⟩) (pcW_V hev hP hD (q0 := 0) rfl rfl rfl) rfl rfl hl.1 rfl (lv_room (Nat.le_of_ble_eq_true rfl)) dX5_count_111 ⟨Nat.zero_le _, Nat.zero_le _⟩) hD hS hA moF (fun H locs hP hD hS => ?_)
  refine lv_eqi (y := orD (zWg (m_z M) 2) 12) rfl ?_
  exact hret _ _ _ _ hP hS dX5_count_114
set_option maxHeartbeats 4000000 in
set_option maxRecDepth 100000 in
theorem c_X5_count_10 (l : Launch) (G : va_G) (ca : Nat → ClassId) (h : Nat) (a : Nat → Nat) (M : MM) : CtI l yX5_count wsX5_count ({ frames := 2, cells := 0, slots := 0, locals := 45 }) [.ref h, .int (nI 10)] G ca (moT ca h a M) (moT ca h a M) (orD (zWg (m_z M) 3) 12) := by
  refine CtI.ofW (cc := cX5_count) (maxL := 2) (rt := .int) (by decide) rfl (Nat.le_of_ble_eq_true rfl) rfl ?_
  intro pr en s m be me c A ls Q H hx hb hml hts hown hev hP hD hA hS hl hret
  have hown : s.vm.findClass RX5 = some m.cls := hown
  have hl : lv_has ls 2 [(0, .ref h), (1, .int (nI 10))] := hl
  have in_wsX50 : ∀ w ∈ wsX50, w ∈ wsX5_count := fun _ h => List.mem_cons_of_mem _ (List.mem_append_right _ h)
  refine lv_iload_n hx hb dX5_count_0 rfl (lv_at hl 1 rfl) ?_
  refine lv_tableIn (off := 103) (tgt := 104) hx hb dX5_count_1 (by decide) (by decide) (by decide +kernel) (by decide) ?_
  refine lv_aload_n hx hb dX5_count_104 rfl (lv_at hl 0 rfl) ?_
  refine lv_iconst (v := nI 2) hx hb dX5_count_105 (by decide) ?_
  refine lv_iload_n hx hb dX5_count_106 rfl (lv_at hl 1 rfl) ?_
  refine lv_iadd hx hb dX5_count_107 ?_
  refine lv_eqi (nI_add _ _) ?_
  refine lv_bipush (v := nI 9) hx hb dX5_count_108 (by decide) ?_
  refine lv_isub hx hb dX5_count_110 ?_
  refine lv_eqi (pk_sub (by omega)) ?_
  refine goIw (va_runV (As := [.int (nI ((2 + 10) - 9))]) (rest := []) ⟨hx, hb, hml, hown, hts⟩ (CtI.use (c_X5_puddlesWith l G ca h a M ((2 + 10) - 9) (by omega)) H.size) (cwV 1 hts gX5_count_X5_puddlesWith rfl rfl rfl (by decide +kernel) ⟨Nat.le_of_ble_eq_true rfl, Nat.le_of_ble_eq_true rfl⟩) (pcW_V hev hP hD (q0 := 0) rfl rfl rfl) rfl rfl hl.1 rfl (lv_room (Nat.le_of_ble_eq_true rfl)) dX5_count_111 ⟨Nat.zero_le _, Nat.zero_le _⟩) hD hS hA moF (fun H locs hP hD hS => ?_)
  refine lv_eqi (y := orD (zWg (m_z M) 3) 12) rfl ?_
  exact hret _ _ _ _ hP hS dX5_count_114
set_option maxHeartbeats 4000000 in
set_option maxRecDepth 100000 in
theorem c_X5_count_11 (l : Launch) (G : va_G) (ca : Nat → ClassId) (h : Nat) (a : Nat → Nat) (M : MM) : CtI l yX5_count wsX5_count ({ frames := 3, cells := 0, slots := 0, locals := 67 }) [.ref h, .int (nI 11)] G ca (moT ca h a M) (moT ca h a M) (smD (fun w => szN (orD (zPg (m_z M) w) 12)) 6) := by
  refine CtI.ofW (cc := cX5_count) (maxL := 2) (rt := .int) (by decide) rfl (Nat.le_of_ble_eq_true rfl) rfl ?_
  intro pr en s m be me c A ls Q H hx hb hml hts hown hev hP hD hA hS hl hret
  have hown : s.vm.findClass RX5 = some m.cls := hown
  have hl : lv_has ls 2 [(0, .ref h), (1, .int (nI 11))] := hl
  have in_wsX50 : ∀ w ∈ wsX50, w ∈ wsX5_count := fun _ h => List.mem_cons_of_mem _ (List.mem_append_right _ h)
  refine lv_iload_n hx hb dX5_count_0 rfl (lv_at hl 1 rfl) ?_
  refine lv_tableIn (off := 114) (tgt := 115) hx hb dX5_count_1 (by decide) (by decide) (by decide +kernel) (by decide) ?_
  refine lv_aload_n hx hb dX5_count_115 rfl (lv_at hl 0 rfl) ?_
  refine goIw (va_runV (As := []) (rest := []) ⟨hx, hb, hml, hown, hts⟩ (CtI.use (c_X5_allPermits l G ca h a M) H.size) (cwV 0 hts gX5_count_X5_allPermits rfl rfl rfl (by decide +kernel) ⟨Nat.le_of_ble_eq_true rfl, Nat.le_of_ble_eq_true rfl⟩) (pcW_V hev hP hD (q0 := 0) rfl rfl rfl) rfl rfl hl.1 rfl (lv_room (Nat.le_of_ble_eq_true rfl)) dX5_count_116 ⟨Nat.zero_le _, Nat.zero_le _⟩) hD hS hA moF (fun H locs hP hD hS => ?_)
  exact hret _ _ _ _ hP hS dX5_count_119
set_option maxHeartbeats 4000000 in
set_option maxRecDepth 100000 in
theorem c_X5_count_12 (l : Launch) (G : va_G) (ca : Nat → ClassId) (h : Nat) (a : Nat → Nat) (M : MM) : CtI l yX5_count wsX5_count ({ frames := 2, cells := 0, slots := 0, locals := 45 }) [.ref h, .int (nI 12)] G ca (moT ca h a M) (moT ca h a M) (smD (fun w => m_z M (68 + 4 * w + 1)) 6) := by
  refine CtI.ofW (cc := cX5_count) (maxL := 2) (rt := .int) (by decide) rfl (Nat.le_of_ble_eq_true rfl) rfl ?_
  intro pr en s m be me c A ls Q H hx hb hml hts hown hev hP hD hA hS hl hret
  have hown : s.vm.findClass RX5 = some m.cls := hown
  have hl : lv_has ls 2 [(0, .ref h), (1, .int (nI 12))] := hl
  have in_wsX50 : ∀ w ∈ wsX50, w ∈ wsX5_count := fun _ h => List.mem_cons_of_mem _ (List.mem_append_right _ h)
  refine lv_iload_n hx hb dX5_count_0 rfl (lv_at hl 1 rfl) ?_
  refine lv_tableIn (off := 119) (tgt := 120) hx hb dX5_count_1 (by decide) (by decide) (by decide +kernel) (by decide) ?_
  refine lv_aload_n hx hb dX5_count_120 rfl (lv_at hl 0 rfl) ?_
  refine lv_iconst (v := nI 1) hx hb dX5_count_121 (by decide) ?_
  refine lv_iload_n hx hb dX5_count_122 rfl (lv_at hl 1 rfl) ?_
  refine lv_iadd hx hb dX5_count_123 ?_
  refine lv_eqi (nI_add _ _) ?_
  refine lv_bipush (v := nI 12) hx hb dX5_count_124 (by decide) ?_
  refine lv_isub hx hb dX5_count_126 ?_
  refine lv_eqi (pk_sub (by omega)) ?_
  refine goIw (va_runV (As := [.int (nI ((1 + 12) - 12))]) (rest := []) ⟨hx, hb, hml, hown, hts⟩ (CtI.use (c_X5_sumOfWalkers l G ca h a M ((1 + 12) - 12) (by omega)) H.size) (cwV 1 hts gX5_count_X5_sumOfWalkers rfl rfl rfl (by decide +kernel) ⟨Nat.le_of_ble_eq_true rfl, Nat.le_of_ble_eq_true rfl⟩) (pcW_V hev hP hD (q0 := 0) rfl rfl rfl) rfl rfl hl.1 rfl (lv_room (Nat.le_of_ble_eq_true rfl)) dX5_count_127 ⟨Nat.zero_le _, Nat.zero_le _⟩) hD hS hA moF (fun H locs hP hD hS => ?_)
  refine lv_eqi (y := smD (fun w => (m_z M) (68 + 4 * w + ((1 + 12) - 12))) 6) rfl ?_
  refine lv_eqi (y := smD (fun w => m_z M (68 + 4 * w + 1)) 6) rfl ?_
  exact hret _ _ _ _ hP hS dX5_count_130
set_option maxHeartbeats 4000000 in
set_option maxRecDepth 100000 in
theorem c_X5_count_13 (l : Launch) (G : va_G) (ca : Nat → ClassId) (h : Nat) (a : Nat → Nat) (M : MM) : CtI l yX5_count wsX5_count ({ frames := 2, cells := 0, slots := 0, locals := 45 }) [.ref h, .int (nI 13)] G ca (moT ca h a M) (moT ca h a M) (smD (fun w => m_z M (68 + 4 * w + 2)) 6) := by
  refine CtI.ofW (cc := cX5_count) (maxL := 2) (rt := .int) (by decide) rfl (Nat.le_of_ble_eq_true rfl) rfl ?_
  intro pr en s m be me c A ls Q H hx hb hml hts hown hev hP hD hA hS hl hret
  have hown : s.vm.findClass RX5 = some m.cls := hown
  have hl : lv_has ls 2 [(0, .ref h), (1, .int (nI 13))] := hl
  have in_wsX50 : ∀ w ∈ wsX50, w ∈ wsX5_count := fun _ h => List.mem_cons_of_mem _ (List.mem_append_right _ h)
  refine lv_iload_n hx hb dX5_count_0 rfl (lv_at hl 1 rfl) ?_
  refine lv_tableIn (off := 119) (tgt := 120) hx hb dX5_count_1 (by decide) (by decide) (by decide +kernel) (by decide) ?_
  refine lv_aload_n hx hb dX5_count_120 rfl (lv_at hl 0 rfl) ?_
  refine lv_iconst (v := nI 1) hx hb dX5_count_121 (by decide) ?_
  refine lv_iload_n hx hb dX5_count_122 rfl (lv_at hl 1 rfl) ?_
  refine lv_iadd hx hb dX5_count_123 ?_
  refine lv_eqi (nI_add _ _) ?_
  refine lv_bipush (v := nI 12) hx hb dX5_count_124 (by decide) ?_
  refine lv_isub hx hb dX5_count_126 ?_
  refine lv_eqi (pk_sub (by omega)) ?_
  refine goIw (va_runV (As := [.int (nI ((1 + 13) - 12))]) (rest := []) ⟨hx, hb, hml, hown, hts⟩ (CtI.use (c_X5_sumOfWalkers l G ca h a M ((1 + 13) - 12) (by omega)) H.size) (cwV 1 hts gX5_count_X5_sumOfWalkers rfl rfl rfl (by decide +kernel) ⟨Nat.le_of_ble_eq_true rfl, Nat.le_of_ble_eq_true rfl⟩) (pcW_V hev hP hD (q0 := 0) rfl rfl rfl) rfl rfl hl.1 rfl (lv_room (Nat.le_of_ble_eq_true rfl)) dX5_count_127 ⟨Nat.zero_le _, Nat.zero_le _⟩) hD hS hA moF (fun H locs hP hD hS => ?_)
  refine lv_eqi (y := smD (fun w => (m_z M) (68 + 4 * w + ((1 + 13) - 12))) 6) rfl ?_
  refine lv_eqi (y := smD (fun w => m_z M (68 + 4 * w + 2)) 6) rfl ?_
  exact hret _ _ _ _ hP hS dX5_count_130
set_option maxHeartbeats 4000000 in
set_option maxRecDepth 100000 in
theorem c_X5_count_14 (l : Launch) (G : va_G) (ca : Nat → ClassId) (h : Nat) (a : Nat → Nat) (M : MM) : CtI l yX5_count wsX5_count ({ frames := 0, cells := 0, slots := 0, locals := 0 }) [.ref h, .int (nI 14)] G ca (moT ca h a M) (moT ca h a M) (m_typed M) := by
  refine CtI.ofW (cc := cX5_count) (maxL := 2) (rt := .int) (by decide) rfl (Nat.le_of_ble_eq_true rfl) rfl ?_
  intro pr en s m be me c A ls Q H hx hb hml hts hown hev hP hD hA hS hl hret
  have hown : s.vm.findClass RX5 = some m.cls := hown
  have hl : lv_has ls 2 [(0, .ref h), (1, .int (nI 14))] := hl
  have in_wsX50 : ∀ w ∈ wsX50, w ∈ wsX5_count := fun _ h => List.mem_cons_of_mem _ (List.mem_append_right _ h)
  refine lv_iload_n hx hb dX5_count_0 rfl (lv_at hl 1 rfl) ?_
  refine lv_tableIn (off := 130) (tgt := 131) hx hb dX5_count_1 (by decide) (by decide) (by decide +kernel) (by decide) ?_
  refine lv_aload_n hx hb dX5_count_131 rfl (lv_at hl 0 rfl) ?_
  refine va_get (D := G) (ci := 5) (v := .int (m_typed M)) (C := RX5) (T := TX5) (N := 10) hx hb hts in_wsX50 hown hev.1 hP 0 rfl rfl 6 (by decide) (hts (.fieldLink RX5 130 "PuddleMinistriesModel" "typed" "I") (List.mem_of_getElem? (i := 2) rfl)) (fun _ h9 => h9) rfl dX5_count_132 ?_
  exact hret _ _ _ _ hP hS dX5_count_135
set_option maxHeartbeats 4000000 in
set_option maxRecDepth 100000 in
theorem c_X5_count_15 (l : Launch) (G : va_G) (ca : Nat → ClassId) (h : Nat) (a : Nat → Nat) (M : MM) : CtI l yX5_count wsX5_count ({ frames := 0, cells := 0, slots := 0, locals := 0 }) [.ref h, .int (nI 15)] G ca (moT ca h a M) (moT ca h a M) (m_states M) := by
  refine CtI.ofW (cc := cX5_count) (maxL := 2) (rt := .int) (by decide) rfl (Nat.le_of_ble_eq_true rfl) rfl ?_
  intro pr en s m be me c A ls Q H hx hb hml hts hown hev hP hD hA hS hl hret
  have hown : s.vm.findClass RX5 = some m.cls := hown
  have hl : lv_has ls 2 [(0, .ref h), (1, .int (nI 15))] := hl
  have in_wsX50 : ∀ w ∈ wsX50, w ∈ wsX5_count := fun _ h => List.mem_cons_of_mem _ (List.mem_append_right _ h)
  refine lv_iload_n hx hb dX5_count_0 rfl (lv_at hl 1 rfl) ?_
  refine lv_tableIn (off := 135) (tgt := 136) hx hb dX5_count_1 (by decide) (by decide) (by decide +kernel) (by decide) ?_
  refine lv_aload_n hx hb dX5_count_136 rfl (lv_at hl 0 rfl) ?_
  refine va_get (D := G) (ci := 5) (v := .int (m_states M)) (C := RX5) (T := TX5) (N := 10) hx hb hts in_wsX50 hown hev.1 hP 0 rfl rfl 2 (by decide) (hts (.fieldLink RX5 41 "PuddleMinistriesModel" "states" "I") (List.mem_of_getElem? (i := 3) rfl)) (fun _ h9 => h9) rfl dX5_count_137 ?_
  exact hret _ _ _ _ hP hS dX5_count_140
set_option maxHeartbeats 4000000 in
set_option maxRecDepth 100000 in
theorem c_X5_count_bad (l : Launch) (G : va_G) (ca : Nat → ClassId) (h : Nat) (a : Nat → Nat) (M : MM) (x : Int32) (hx0 : x.toInt < 0 ∨ 15 < x.toInt) : CtI l yX5_count wsX5_count ({ frames := 0, cells := 0, slots := 0, locals := 0 }) [.ref h, .int x] G ca (moT ca h a M) (moT ca h a M) (-2) := by
  refine CtI.ofW (cc := cX5_count) (maxL := 2) (rt := .int) (by decide) rfl (Nat.le_of_ble_eq_true rfl) rfl ?_
  intro pr en s m be me c A ls Q H hx hb hml hts hown hev hP hD hA hS hl hret
  have hown : s.vm.findClass RX5 = some m.cls := hown
  have hl : lv_has ls 2 [(0, .ref h), (1, .int x)] := hl
  have in_wsX50 : ∀ w ∈ wsX50, w ∈ wsX5_count := fun _ h => List.mem_cons_of_mem _ (List.mem_append_right _ h)
  refine lv_iload_n hx hb dX5_count_0 rfl (lv_at hl 1 rfl) ?_
  refine lv_tableOut (tgt := 141) hx hb dX5_count_1 hx0 (by decide) ?_
  refine lv_bipush (v := (-2)) hx hb dX5_count_141 (by decide) ?_
  exact hret _ _ _ _ hP hS dX5_count_143
set_option maxHeartbeats 4000000 in
set_option maxRecDepth 100000 in
theorem c_X5_untilDry_out (l : Launch) (G : va_G) (ca : Nat → ClassId) (h : Nat) (a : Nat → Nat) (M : MM) (x : Int32) (hx0 : x < 0 ∨ nI 12 ≤ x) : CtI l yX5_untilDry wsX5_untilDry ({ frames := 2, cells := 0, slots := 0, locals := 42 }) [.ref h, .int x] G ca (moT ca h a M) (moT ca h a M) (-1) := by
  refine CtI.ofW (cc := cX5_untilDry) (maxL := 3) (rt := .int) (by decide) rfl (Nat.le_of_ble_eq_true rfl) rfl ?_
  intro pr en s m be me c A ls Q H hx hb hml hts hown hev hP hD hA hS hl hret
  have hown : s.vm.findClass RX5 = some m.cls := hown
  have hl : lv_has ls 3 [(0, .ref h), (1, .int x)] := hl
  have in_wsX50 : ∀ w ∈ wsX50, w ∈ wsX5_untilDry := fun _ h => List.mem_cons_of_mem _ (List.mem_append_right _ h)
  refine lv_iload_n hx hb dX5_untilDry_0 rfl (lv_at hl 1 rfl) ?_
  refine goI0 (va_runS (As := [.int x]) (rest := []) ⟨hx, hb, hml, hown, hts⟩ (CtI.use (c_X5_isPuddle l G ca x) H.size) (va_cwS 1 hts gX5_untilDry_X5_isPuddle rfl rfl rfl (by decide +kernel) ⟨Nat.le_of_ble_eq_true rfl, Nat.le_of_ble_eq_true rfl⟩) (pcW_S hev P_nil (D_nil (A := A))) rfl rfl hl.1 rfl (lv_room (Nat.le_of_ble_eq_true rfl)) dX5_untilDry_1 ⟨Nat.zero_le _, Nat.zero_le _⟩) hP hS hA (fun H locs hP hS => ?_)
  refine lv_eqi (y := 0) (by exact inC_po hx0) ?_
  refine lv_if_ne (tgt := 9) hx hb dX5_untilDry_4 (by decide) (fun c_1 => ?_) (fun c_1 => ?_)
  · skip
    exact absurd (by decide) c_1
  · skip
    refine lv_iconst (v := (-1)) hx hb dX5_untilDry_7 (by decide) ?_
    exact hret _ _ _ _ hP hS dX5_untilDry_8
set_option maxHeartbeats 4000000 in
set_option maxRecDepth 100000 in
theorem c_X5_untilDry_ok (l : Launch) (G : va_G) (ca : Nat → ClassId) (h : Nat) (a : Nat → Nat) (M : MM) (p : Nat) (hp1 : p < 12) : CtI l yX5_untilDry wsX5_untilDry ({ frames := 2, cells := 0, slots := 0, locals := 42 }) [.ref h, .int (nI p)] G ca (moT ca h a M) (moT ca h a M) (if m_z M (8 + 5 * p + 1) = 0 then 0 else if m_z M 1 = 0 then (-6) else m_z M (8 + 5 * p + 2) + (m_z M (8 + 5 * p + 1) + m_z M 1 - 1) / m_z M 1) := by
  refine CtI.ofW (cc := cX5_untilDry) (maxL := 3) (rt := .int) (by decide) rfl (Nat.le_of_ble_eq_true rfl) rfl ?_
  intro pr en s m be me c A ls Q H hx hb hml hts hown hev hP hD hA hS hl hret
  have hown : s.vm.findClass RX5 = some m.cls := hown
  have hl : lv_has ls 3 [(0, .ref h), (1, .int (nI p))] := hl
  have in_wsX50 : ∀ w ∈ wsX50, w ∈ wsX5_untilDry := fun _ h => List.mem_cons_of_mem _ (List.mem_append_right _ h)
  refine lv_iload_n hx hb dX5_untilDry_0 rfl (lv_at hl 1 rfl) ?_
  refine goI0 (va_runS (As := [.int (nI p)]) (rest := []) ⟨hx, hb, hml, hown, hts⟩ (CtI.use (c_X5_isPuddle l G ca (nI p)) H.size) (va_cwS 1 hts gX5_untilDry_X5_isPuddle rfl rfl rfl (by decide +kernel) ⟨Nat.le_of_ble_eq_true rfl, Nat.le_of_ble_eq_true rfl⟩) (pcW_S hev P_nil (D_nil (A := A))) rfl rfl hl.1 rfl (lv_room (Nat.le_of_ble_eq_true rfl)) dX5_untilDry_1 ⟨Nat.zero_le _, Nat.zero_le _⟩) hP hS hA (fun H locs hP hS => ?_)
  refine lv_eqi (y := 1) (by exact inC_p (by omega)) ?_
  refine lv_if_ne (tgt := 9) hx hb dX5_untilDry_4 (by decide) (fun c_1 => ?_) (fun c_1 => ?_)
  · skip
    refine lv_aload_n hx hb dX5_untilDry_9 rfl (lv_at hl 0 rfl) ?_
    refine lv_iload_n hx hb dX5_untilDry_10 rfl (lv_at hl 1 rfl) ?_
    refine lv_iconst (v := nI 1) hx hb dX5_untilDry_11 (by decide) ?_
    refine goIw (va_runV (As := [.int (nI p), .int (nI 1)]) (rest := []) ⟨hx, hb, hml, hown, hts⟩ (CtI.use (c_X5_of l G ca h a M p 1 (by omega) (by omega)) H.size) (cwV 2 hts gX5_untilDry_X5_of rfl rfl rfl (by decide +kernel) ⟨Nat.le_of_ble_eq_true rfl, Nat.le_of_ble_eq_true rfl⟩) (pcW_V hev hP hD (q0 := 0) rfl rfl rfl) rfl rfl hl.1 rfl (lv_room (Nat.le_of_ble_eq_true rfl)) dX5_untilDry_12 ⟨Nat.zero_le _, Nat.zero_le _⟩) hD hS hA moF (fun H locs hP hD hS => ?_)
    refine lv_eqi (y := (m_z M) (8 + 5 * p + 1)) rfl ?_
    refine lv_istore_n (lv' := [(2, .int ((m_z M) (8 + 5 * p + 1))), (0, .ref h), (1, .int (nI p))]) hx hb dX5_untilDry_15 rfl hl (by decide) rfl (fun ls hl => ?_)
    refine lv_iload_n hx hb dX5_untilDry_16 rfl (lv_at hl 0 rfl) ?_
    refine lv_if_ne (tgt := 22) hx hb dX5_untilDry_17 (by decide) (fun c_2 => ?_) (fun c_2 => ?_)
    · skip
      refine lv_aload_n hx hb dX5_untilDry_22 rfl (lv_at hl 1 rfl) ?_
      refine va_get (D := G) (ci := 5) (v := .ref (a 0)) (C := RX5) (T := TX5) (N := 10) hx hb hts in_wsX50 hown hev.1 hP 0 rfl rfl 0 (by decide) (hts (.fieldLink RX5 7 "PuddleMinistriesModel" "z" "[I") (List.mem_of_getElem? (i := 1) rfl)) (fun _ h9 => h9) rfl dX5_untilDry_23 ?_
      refine lv_iconst (v := nI 1) hx hb dX5_untilDry_26 (by decide) ?_
      refine b_iald hx hb hev.1 hP 1 rfl rfl (j := 1) (by omega) (by decide) dX5_untilDry_27 ?_
      refine lv_if_ne (tgt := 36) hx hb dX5_untilDry_28 (by decide) (fun c_3 => ?_) (fun c_3 => ?_)
      · skip
        refine lv_aload_n hx hb dX5_untilDry_36 rfl (lv_at hl 1 rfl) ?_
        refine lv_iload_n hx hb dX5_untilDry_37 rfl (lv_at hl 2 rfl) ?_
        refine lv_iconst (v := nI 2) hx hb dX5_untilDry_38 (by decide) ?_
        refine goIw (va_runV (As := [.int (nI p), .int (nI 2)]) (rest := []) ⟨hx, hb, hml, hown, hts⟩ (CtI.use (c_X5_of l G ca h a M p 2 (by omega) (by omega)) H.size) (cwV 2 hts gX5_untilDry_X5_of rfl rfl rfl (by decide +kernel) ⟨Nat.le_of_ble_eq_true rfl, Nat.le_of_ble_eq_true rfl⟩) (pcW_V hev hP hD (q0 := 0) rfl rfl rfl) rfl rfl hl.1 rfl (lv_room (Nat.le_of_ble_eq_true rfl)) dX5_untilDry_39 ⟨Nat.zero_le _, Nat.zero_le _⟩) hD hS hA moF (fun H locs hP hD hS => ?_)
        refine lv_eqi (y := (m_z M) (8 + 5 * p + 2)) rfl ?_
        refine lv_iload_n hx hb dX5_untilDry_42 rfl (lv_at hl 0 rfl) ?_
        refine lv_aload_n hx hb dX5_untilDry_43 rfl (lv_at hl 1 rfl) ?_
        refine va_get (D := G) (ci := 5) (v := .ref (a 0)) (C := RX5) (T := TX5) (N := 10) hx hb hts in_wsX50 hown hev.1 hP 0 rfl rfl 0 (by decide) (hts (.fieldLink RX5 7 "PuddleMinistriesModel" "z" "[I") (List.mem_of_getElem? (i := 1) rfl)) (fun _ h9 => h9) rfl dX5_untilDry_44 ?_
        refine lv_iconst (v := nI 1) hx hb dX5_untilDry_47 (by decide) ?_
        refine b_iald hx hb hev.1 hP 1 rfl rfl (j := 1) (by omega) (by decide) dX5_untilDry_48 ?_
        refine lv_iadd hx hb dX5_untilDry_49 ?_
        refine lv_iconst (v := 1) hx hb dX5_untilDry_50 (by decide) ?_
        refine lv_isub hx hb dX5_untilDry_51 ?_
        refine lv_aload_n hx hb dX5_untilDry_52 rfl (lv_at hl 1 rfl) ?_
        refine va_get (D := G) (ci := 5) (v := .ref (a 0)) (C := RX5) (T := TX5) (N := 10) hx hb hts in_wsX50 hown hev.1 hP 0 rfl rfl 0 (by decide) (hts (.fieldLink RX5 7 "PuddleMinistriesModel" "z" "[I") (List.mem_of_getElem? (i := 1) rfl)) (fun _ h9 => h9) rfl dX5_untilDry_53 ?_
        refine lv_iconst (v := nI 1) hx hb dX5_untilDry_56 (by decide) ?_
        refine b_iald hx hb hev.1 hP 1 rfl rfl (j := 1) (by omega) (by decide) dX5_untilDry_57 ?_
        refine lv_idiv hx hb dX5_untilDry_58 (by assumption) ?_
        refine lv_iadd hx hb dX5_untilDry_59 ?_
        refine lv_eqi (y := if m_z M (8 + 5 * p + 1) = 0 then 0 else if m_z M 1 = 0 then (-6) else m_z M (8 + 5 * p + 2) + (m_z M (8 + 5 * p + 1) + m_z M 1 - 1) / m_z M 1) (by rw [if_neg c_2, if_neg c_3]) ?_
        exact hret _ _ _ _ hP hS dX5_untilDry_60
      · skip
        refine lv_bipush (v := (-6)) hx hb dX5_untilDry_31 (by decide) ?_
        refine lv_goto (tgt := 60) hx hb dX5_untilDry_33 (by decide) ?_
        refine lv_eqi (y := if m_z M (8 + 5 * p + 1) = 0 then 0 else if m_z M 1 = 0 then (-6) else m_z M (8 + 5 * p + 2) + (m_z M (8 + 5 * p + 1) + m_z M 1 - 1) / m_z M 1) (by rw [if_neg c_2, if_pos c_3]) ?_
        exact hret _ _ _ _ hP hS dX5_untilDry_60
    · skip
      refine lv_iconst (v := 0) hx hb dX5_untilDry_20 (by decide) ?_
      refine lv_eqi (y := if m_z M (8 + 5 * p + 1) = 0 then 0 else if m_z M 1 = 0 then (-6) else m_z M (8 + 5 * p + 2) + (m_z M (8 + 5 * p + 1) + m_z M 1 - 1) / m_z M 1) (by rw [if_pos c_2]) ?_
      exact hret _ _ _ _ hP hS dX5_untilDry_21
  · skip
    exact absurd c_1 (by decide)
def mlS (z : Nat → Int32) (w : Nat) : Nat → Int32 | 0 => (-6) | i + 1 => if orD (zMg z w (nI (4 - i) - 1)) 12 = 4095 then nI (4 - i) - 1 else mlS z w i
theorem mlS_s (z : Nat → Int32) (w i : Nat) : mlS z w (i + 1) = if orD (zMg z w (nI (4 - i) - 1)) 12 = 4095 then nI (4 - i) - 1 else mlS z w i := rfl
def mlW (z : Nat → Int32) (w : Nat) : Nat → Int32 × Int32 | 0 => (0, (-6)) | i + 1 => if nI (zAl z w i 11) ≤ (mlW z w i).1 then mlW z w i else (nI (zAl z w i 11), nI i)
theorem mlW_s (z : Nat → Int32) (w i : Nat) : mlW z w (i + 1) = if nI (zAl z w i 11) ≤ (mlW z w i).1 then mlW z w i else (nI (zAl z w i 11), nI i) := rfl
set_option maxHeartbeats 4000000 in
set_option maxRecDepth 100000 in
theorem c_X5_leastShoes_out (l : Launch) (G : va_G) (ca : Nat → ClassId) (h : Nat) (a : Nat → Nat) (M : MM) (x : Int32) (hx0 : x < 0 ∨ nI 6 ≤ x) : CtI l yX5_leastShoes wsX5_leastShoes ({ frames := 2, cells := 0, slots := 0, locals := 42 }) [.ref h, .int x] G ca (moT ca h a M) (moT ca h a M) (-1) := by
  refine CtI.ofW (cc := cX5_leastShoes) (maxL := 4) (rt := .int) (by decide) rfl (Nat.le_of_ble_eq_true rfl) rfl ?_
  intro pr en s m be me c A ls Q H hx hb hml hts hown hev hP hD hA hS hl hret
  have hown : s.vm.findClass RX5 = some m.cls := hown
  have hl : lv_has ls 4 [(0, .ref h), (1, .int x)] := hl
  have in_wsX50 : ∀ w ∈ wsX50, w ∈ wsX5_leastShoes := fun _ h => List.mem_cons_of_mem _ (List.mem_append_right _ h)
  refine lv_iload_n hx hb dX5_leastShoes_0 rfl (lv_at hl 1 rfl) ?_
  refine goI0 (va_runS (As := [.int x]) (rest := []) ⟨hx, hb, hml, hown, hts⟩ (CtI.use (c_X5_isWalker l G ca x) H.size) (va_cwS 1 hts gX5_leastShoes_X5_isWalker rfl rfl rfl (by decide +kernel) ⟨Nat.le_of_ble_eq_true rfl, Nat.le_of_ble_eq_true rfl⟩) (pcW_S hev P_nil (D_nil (A := A))) rfl rfl hl.1 rfl (lv_room (Nat.le_of_ble_eq_true rfl)) dX5_leastShoes_1 ⟨Nat.zero_le _, Nat.zero_le _⟩) hP hS hA (fun H locs hP hS => ?_)
  refine lv_eqi (y := 0) (by exact inC_wo hx0) ?_
  refine lv_if_ne (tgt := 9) hx hb dX5_leastShoes_4 (by decide) (fun c_1 => ?_) (fun c_1 => ?_)
  · skip
    exact absurd (by decide) c_1
  · skip
    refine lv_iconst (v := (-1)) hx hb dX5_leastShoes_7 (by decide) ?_
    exact hret _ _ _ _ hP hS dX5_leastShoes_8
set_option maxHeartbeats 4000000 in
set_option maxRecDepth 100000 in
theorem c_X5_leastShoes_ok (l : Launch) (G : va_G) (ca : Nat → ClassId) (h : Nat) (a : Nat → Nat) (M : MM) (w : Nat) (n4 : Nat) (hw : w < 6) (h4 : n4 = 4) : CtI l yX5_leastShoes wsX5_leastShoes ({ frames := 4, cells := 0, slots := 0, locals := 91 }) [.ref h, .int (nI w)] G ca (moT ca h a M) (moT ca h a M) (mlS (m_z M) w n4) := by
  refine CtI.ofW (cc := cX5_leastShoes) (maxL := 4) (rt := .int) (by decide) rfl (Nat.le_of_ble_eq_true rfl) rfl ?_
  intro pr en s m be me c A ls Q H hx hb hml hts hown hev hP hD hA hS hl hret
  have hown : s.vm.findClass RX5 = some m.cls := hown
  have hl : lv_has ls 4 [(0, .ref h), (1, .int (nI w))] := hl
  have in_wsX50 : ∀ w ∈ wsX50, w ∈ wsX5_leastShoes := fun _ h => List.mem_cons_of_mem _ (List.mem_append_right _ h)
  refine lv_iload_n hx hb dX5_leastShoes_0 rfl (lv_at hl 1 rfl) ?_
  refine goI0 (va_runS (As := [.int (nI w)]) (rest := []) ⟨hx, hb, hml, hown, hts⟩ (CtI.use (c_X5_isWalker l G ca (nI w)) H.size) (va_cwS 1 hts gX5_leastShoes_X5_isWalker rfl rfl rfl (by decide +kernel) ⟨Nat.le_of_ble_eq_true rfl, Nat.le_of_ble_eq_true rfl⟩) (pcW_S hev P_nil (D_nil (A := A))) rfl rfl hl.1 rfl (lv_room (Nat.le_of_ble_eq_true rfl)) dX5_leastShoes_1 ⟨Nat.zero_le _, Nat.zero_le _⟩) hP hS hA (fun H locs hP hS => ?_)
  refine lv_eqi (y := 1) (by exact inC_w (by omega)) ?_
  refine lv_if_ne (tgt := 9) hx hb dX5_leastShoes_4 (by decide) (fun c_1 => ?_) (fun c_1 => ?_)
  · skip
    refine lv_bipush (v := (-6)) hx hb dX5_leastShoes_9 (by decide) ?_
    refine lv_istore_n (lv' := [(2, .int (-6)), (0, .ref h), (1, .int (nI w))]) hx hb dX5_leastShoes_11 rfl hl (by decide) rfl (fun ls hl => ?_)
    refine lv_iconst (v := 3) hx hb dX5_leastShoes_12 (by decide) ?_
    refine lv_istore_n (lv' := [(3, .int 3), (2, .int (-6)), (0, .ref h), (1, .int (nI w))]) hx hb dX5_leastShoes_13 rfl hl (by decide) rfl (fun ls hl => ?_)
    have loop_14 : ∀ (fu i : Nat), i + fu = n4 → ∀ (H : Heap) (locs : List Loc) (ls : Array Slot), va_P G vwCl (moT ca h a M) H → va_D A (moT ca h a M) → va_S A s.heap H locs → lv_has ls 4 [(0, .ref h), (1, .int (nI w)), (2, .int (mlS (m_z M) w i)), (3, .int (nI (4 - i) - 1))] → W pr l en ({ frames := 4, cells := 0, slots := 0, locals := 91 } : Room) s m ([.ref h, .int (nI w)] : List Value).toArray be me c H locs 0 0 Q (F0 m 14 ls []) := by
      intro fu
      induction fu with
      | zero =>
        intro i hi H locs ls hP hD hS hl
        obtain rfl : n4 = i := by omega
        refine lv_iload_n hx hb dX5_leastShoes_14 rfl (lv_at hl 3 rfl) ?_
        refine lv_if_lt (tgt := 42) hx hb dX5_leastShoes_15 (by decide) (fun c_2 => ?_) (fun c_2 => ?_)
        · skip
          refine lv_iload_n hx hb dX5_leastShoes_42 rfl (lv_at hl 2 rfl) ?_
          exact hret _ _ _ _ hP hS dX5_leastShoes_43
        · skip
          exact absurd (by rw [h4]; decide) c_2
      | succ fu ih =>
        intro i hi H locs ls hP hD hS hl
        have hlt : i < n4 := by omega
        refine lv_iload_n hx hb dX5_leastShoes_14 rfl (lv_at hl 3 rfl) ?_
        refine lv_if_lt (tgt := 42) hx hb dX5_leastShoes_15 (by decide) (fun c_3 => ?_) (fun c_3 => ?_)
        · skip
          exact absurd c_3 (by rw [pred_nI (by omega)]; exact nI_pos (by omega))
        · skip
          refine lv_aload_n hx hb dX5_leastShoes_18 rfl (lv_at hl 0 rfl) ?_
          refine lv_iload_n hx hb dX5_leastShoes_19 rfl (lv_at hl 1 rfl) ?_
          refine lv_iload_n hx hb dX5_leastShoes_20 rfl (lv_at hl 3 rfl) ?_
          refine goIw (va_runV (As := [.int (nI w), .int (nI (4 - i) - 1)]) (rest := []) ⟨hx, hb, hml, hown, hts⟩ (CtI.use (c_X5_may l G ca h a M w (nI (4 - i) - 1) (by omega)) H.size) (cwV 2 hts gX5_leastShoes_X5_may rfl rfl rfl (by decide +kernel) ⟨Nat.le_of_ble_eq_true rfl, Nat.le_of_ble_eq_true rfl⟩) (pcW_V hev hP hD (q0 := 0) rfl rfl rfl) rfl rfl hl.1 rfl (lv_room (Nat.le_of_ble_eq_true rfl)) dX5_leastShoes_21 ⟨Nat.zero_le _, Nat.zero_le _⟩) hD hS hA moF (fun H locs hP hD hS => ?_)
          refine lv_sipush (v := 4095) hx hb dX5_leastShoes_24 (by decide) ?_
          refine lv_icmp_ne (tgt := 34) hx hb dX5_leastShoes_27 (by decide) (fun c_4 => ?_) (fun c_4 => ?_)
          · skip
            refine lv_iload_n hx hb dX5_leastShoes_34 rfl (lv_at hl 2 rfl) ?_
            refine lv_istore_n (lv' := [(2, .int (mlS (m_z M) w i)), (0, .ref h), (1, .int (nI w)), (3, .int (nI (4 - i) - 1))]) hx hb dX5_leastShoes_35 rfl hl (by decide) rfl (fun ls hl => ?_)
            refine lv_iinc (v := (nI (4 - i) - 1) + (-1)) (lv' := [(3, .int ((nI (4 - i) - 1) + (-1))), (2, .int (mlS (m_z M) w i)), (0, .ref h), (1, .int (nI w))]) hx hb dX5_leastShoes_36 hl (k := 3) rfl (rfl) (by decide) rfl (fun ls hl => ?_)
            refine lv_goto (tgt := 14) hx hb dX5_leastShoes_39 (by decide) ?_
            exact ih (i + 1) (by omega) _ _ _ hP (D_of hD moF) hS (by rw [show (mlS (m_z M) w (i + 1)) = (mlS (m_z M) w i) from by rw [mlS_s, if_neg c_4], show (nI (4 - (i + 1)) - 1) = ((nI (4 - i) - 1) + (-1)) from by exact back_nI (by omega)]; exact lv_sub hl [2, 3, 1, 0] rfl)
          · skip
            refine lv_iload_n hx hb dX5_leastShoes_30 rfl (lv_at hl 3 rfl) ?_
            refine lv_goto (tgt := 35) hx hb dX5_leastShoes_31 (by decide) ?_
            refine lv_istore_n (lv' := [(2, .int (nI (4 - i) - 1)), (0, .ref h), (1, .int (nI w)), (3, .int (nI (4 - i) - 1))]) hx hb dX5_leastShoes_35 rfl hl (by decide) rfl (fun ls hl => ?_)
            refine lv_iinc (v := (nI (4 - i) - 1) + (-1)) (lv' := [(3, .int ((nI (4 - i) - 1) + (-1))), (2, .int (nI (4 - i) - 1)), (0, .ref h), (1, .int (nI w))]) hx hb dX5_leastShoes_36 hl (k := 3) rfl (rfl) (by decide) rfl (fun ls hl => ?_)
            refine lv_goto (tgt := 14) hx hb dX5_leastShoes_39 (by decide) ?_
            exact ih (i + 1) (by omega) _ _ _ hP (D_of hD moF) hS (by rw [show (mlS (m_z M) w (i + 1)) = (nI (4 - i) - 1) from by rw [mlS_s, if_pos c_4], show (nI (4 - (i + 1)) - 1) = ((nI (4 - i) - 1) + (-1)) from by exact back_nI (by omega)]; exact lv_sub hl [2, 3, 1, 0] rfl)
    exact loop_14 n4 0 (by omega) _ _ _ hP (D_of hD moF) hS (by rw [show (mlS (m_z M) w 0) = (-6) from by rfl, show (nI (4 - 0) - 1) = 3 from by decide]; exact lv_sub hl [2, 3, 1, 0] rfl)
  · skip
    exact absurd c_1 (by decide)
set_option maxHeartbeats 4000000 in
set_option maxRecDepth 100000 in
theorem c_X5_longestWalk_out (l : Launch) (G : va_G) (ca : Nat → ClassId) (h : Nat) (a : Nat → Nat) (M : MM) (x : Int32) (v : Int32) (hx0 : x < 0 ∨ nI 6 ≤ x) : CtI l yX5_longestWalk wsX5_longestWalk ({ frames := 2, cells := 0, slots := 0, locals := 42 }) [.ref h, .int x, .int v] G ca (moT ca h a M) (moT ca h a M) (-1) := by
  refine CtI.ofW (cc := cX5_longestWalk) (maxL := 7) (rt := .int) (by decide) rfl (Nat.le_of_ble_eq_true rfl) rfl ?_
  intro pr en s m be me c A ls Q H hx hb hml hts hown hev hP hD hA hS hl hret
  have hown : s.vm.findClass RX5 = some m.cls := hown
  have hl : lv_has ls 7 [(0, .ref h), (1, .int x), (2, .int v)] := hl
  have in_wsX50 : ∀ w ∈ wsX50, w ∈ wsX5_longestWalk := fun _ h => List.mem_cons_of_mem _ (List.mem_append_right _ h)
  refine lv_iload_n hx hb dX5_longestWalk_0 rfl (lv_at hl 1 rfl) ?_
  refine goI0 (va_runS (As := [.int x]) (rest := []) ⟨hx, hb, hml, hown, hts⟩ (CtI.use (c_X5_isWalker l G ca x) H.size) (va_cwS 1 hts gX5_longestWalk_X5_isWalker rfl rfl rfl (by decide +kernel) ⟨Nat.le_of_ble_eq_true rfl, Nat.le_of_ble_eq_true rfl⟩) (pcW_S hev P_nil (D_nil (A := A))) rfl rfl hl.1 rfl (lv_room (Nat.le_of_ble_eq_true rfl)) dX5_longestWalk_1 ⟨Nat.zero_le _, Nat.zero_le _⟩) hP hS hA (fun H locs hP hS => ?_)
  refine lv_eqi (y := 0) (by exact inC_wo hx0) ?_
  refine lv_if_ne (tgt := 9) hx hb dX5_longestWalk_4 (by decide) (fun c_1 => ?_) (fun c_1 => ?_)
  · skip
    exact absurd (by decide) c_1
  · skip
    refine lv_iconst (v := (-1)) hx hb dX5_longestWalk_7 (by decide) ?_
    exact hret _ _ _ _ hP hS dX5_longestWalk_8
set_option maxHeartbeats 4000000 in
set_option maxRecDepth 100000 in
theorem c_X5_longestWalk_bad (l : Launch) (G : va_G) (ca : Nat → ClassId) (h : Nat) (a : Nat → Nat) (M : MM) (w : Nat) (v : Int32) (hw : w < 6) (hv0 : ¬ v = 0) (hv1 : ¬ v = 1) : CtI l yX5_longestWalk wsX5_longestWalk ({ frames := 2, cells := 0, slots := 0, locals := 42 }) [.ref h, .int (nI w), .int v] G ca (moT ca h a M) (moT ca h a M) (-2) := by
  refine CtI.ofW (cc := cX5_longestWalk) (maxL := 7) (rt := .int) (by decide) rfl (Nat.le_of_ble_eq_true rfl) rfl ?_
  intro pr en s m be me c A ls Q H hx hb hml hts hown hev hP hD hA hS hl hret
  have hown : s.vm.findClass RX5 = some m.cls := hown
  have hl : lv_has ls 7 [(0, .ref h), (1, .int (nI w)), (2, .int v)] := hl
  have in_wsX50 : ∀ w ∈ wsX50, w ∈ wsX5_longestWalk := fun _ h => List.mem_cons_of_mem _ (List.mem_append_right _ h)
  refine lv_iload_n hx hb dX5_longestWalk_0 rfl (lv_at hl 1 rfl) ?_
  refine goI0 (va_runS (As := [.int (nI w)]) (rest := []) ⟨hx, hb, hml, hown, hts⟩ (CtI.use (c_X5_isWalker l G ca (nI w)) H.size) (va_cwS 1 hts gX5_longestWalk_X5_isWalker rfl rfl rfl (by decide +kernel) ⟨Nat.le_of_ble_eq_true rfl, Nat.le_of_ble_eq_true rfl⟩) (pcW_S hev P_nil (D_nil (A := A))) rfl rfl hl.1 rfl (lv_room (Nat.le_of_ble_eq_true rfl)) dX5_longestWalk_1 ⟨Nat.zero_le _, Nat.zero_le _⟩) hP hS hA (fun H locs hP hS => ?_)
  refine lv_eqi (y := 1) (by exact inC_w (by omega)) ?_
  refine lv_if_ne (tgt := 9) hx hb dX5_longestWalk_4 (by decide) (fun c_1 => ?_) (fun c_1 => ?_)
  · skip
    refine lv_iload_n hx hb dX5_longestWalk_9 rfl (lv_at hl 2 rfl) ?_
    refine lv_iconst (v := 0) hx hb dX5_longestWalk_10 (by decide) ?_
    refine lv_iconst (v := 1) hx hb dX5_longestWalk_11 (by decide) ?_
    refine goI0 (va_runS (As := [.int v, .int 0, .int 1]) (rest := []) ⟨hx, hb, hml, hown, hts⟩ (CtI.use (c_X5_in l G ca v 0 1) H.size) (va_cwS 3 hts gX5_longestWalk_X5_in rfl rfl rfl (by decide +kernel) ⟨Nat.le_of_ble_eq_true rfl, Nat.le_of_ble_eq_true rfl⟩) (pcW_S hev P_nil (D_nil (A := A))) rfl rfl hl.1 rfl (lv_room (Nat.le_of_ble_eq_true rfl)) dX5_longestWalk_12 ⟨Nat.zero_le _, Nat.zero_le _⟩) hP hS hA (fun H locs hP hS => ?_)
    refine lv_eqi (y := 0) (by exact inC_01 hv0 hv1) ?_
    refine lv_if_ne (tgt := 21) hx hb dX5_longestWalk_15 (by decide) (fun c_2 => ?_) (fun c_2 => ?_)
    · skip
      exact absurd (by decide) c_2
    · skip
      refine lv_bipush (v := (-2)) hx hb dX5_longestWalk_18 (by decide) ?_
      exact hret _ _ _ _ hP hS dX5_longestWalk_20
  · skip
    exact absurd c_1 (by decide)
set_option maxHeartbeats 4000000 in
set_option maxRecDepth 100000 in
theorem c_X5_longestWalk_0 (l : Launch) (G : va_G) (ca : Nat → ClassId) (h : Nat) (a : Nat → Nat) (M : MM) (w : Nat) (n12 : Nat) (hw : w < 6) (h12 : n12 = 12) : CtI l yX5_longestWalk wsX5_longestWalk ({ frames := 5, cells := 0, slots := 0, locals := 115 }) [.ref h, .int (nI w), .int 0] G ca (moT ca h a M) (moT ca h a M) ((mlW (m_z M) w n12).1) := by
  refine CtI.ofW (cc := cX5_longestWalk) (maxL := 7) (rt := .int) (by decide) rfl (Nat.le_of_ble_eq_true rfl) rfl ?_
  intro pr en s m be me c A ls Q H hx hb hml hts hown hev hP hD hA hS hl hret
  have hown : s.vm.findClass RX5 = some m.cls := hown
  have hl : lv_has ls 7 [(0, .ref h), (1, .int (nI w)), (2, .int 0)] := hl
  have in_wsX50 : ∀ w ∈ wsX50, w ∈ wsX5_longestWalk := fun _ h => List.mem_cons_of_mem _ (List.mem_append_right _ h)
  refine lv_iload_n hx hb dX5_longestWalk_0 rfl (lv_at hl 1 rfl) ?_
  refine goI0 (va_runS (As := [.int (nI w)]) (rest := []) ⟨hx, hb, hml, hown, hts⟩ (CtI.use (c_X5_isWalker l G ca (nI w)) H.size) (va_cwS 1 hts gX5_longestWalk_X5_isWalker rfl rfl rfl (by decide +kernel) ⟨Nat.le_of_ble_eq_true rfl, Nat.le_of_ble_eq_true rfl⟩) (pcW_S hev P_nil (D_nil (A := A))) rfl rfl hl.1 rfl (lv_room (Nat.le_of_ble_eq_true rfl)) dX5_longestWalk_1 ⟨Nat.zero_le _, Nat.zero_le _⟩) hP hS hA (fun H locs hP hS => ?_)
  refine lv_eqi (y := 1) (by exact inC_w (by omega)) ?_
  refine lv_if_ne (tgt := 9) hx hb dX5_longestWalk_4 (by decide) (fun c_1 => ?_) (fun c_1 => ?_)
  · skip
    refine lv_iload_n hx hb dX5_longestWalk_9 rfl (lv_at hl 2 rfl) ?_
    refine lv_iconst (v := 0) hx hb dX5_longestWalk_10 (by decide) ?_
    refine lv_iconst (v := 1) hx hb dX5_longestWalk_11 (by decide) ?_
    refine goI0 (va_runS (As := [.int 0, .int 0, .int 1]) (rest := []) ⟨hx, hb, hml, hown, hts⟩ (CtI.use (c_X5_in l G ca 0 0 1) H.size) (va_cwS 3 hts gX5_longestWalk_X5_in rfl rfl rfl (by decide +kernel) ⟨Nat.le_of_ble_eq_true rfl, Nat.le_of_ble_eq_true rfl⟩) (pcW_S hev P_nil (D_nil (A := A))) rfl rfl hl.1 rfl (lv_room (Nat.le_of_ble_eq_true rfl)) dX5_longestWalk_12 ⟨Nat.zero_le _, Nat.zero_le _⟩) hP hS hA (fun H locs hP hS => ?_)
    refine lv_eqi (y := 1) (by decide) ?_
    refine lv_if_ne (tgt := 21) hx hb dX5_longestWalk_15 (by decide) (fun c_2 => ?_) (fun c_2 => ?_)
    · skip
      refine lv_iconst (v := 0) hx hb dX5_longestWalk_21 (by decide) ?_
      refine lv_istore_n (lv' := [(3, .int 0), (0, .ref h), (1, .int (nI w)), (2, .int 0)]) hx hb dX5_longestWalk_22 rfl hl (by decide) rfl (fun ls hl => ?_)
      refine lv_bipush (v := (-6)) hx hb dX5_longestWalk_23 (by decide) ?_
      refine lv_istore (lv' := [(4, .int (-6)), (3, .int 0), (0, .ref h), (1, .int (nI w)), (2, .int 0)]) hx hb dX5_longestWalk_25 hl (by decide) rfl (fun ls hl => ?_)
      refine lv_iconst (v := nI 0) hx hb dX5_longestWalk_27 (by decide) ?_
      refine lv_istore (lv' := [(5, .int (nI 0)), (4, .int (-6)), (3, .int 0), (0, .ref h), (1, .int (nI w)), (2, .int 0)]) hx hb dX5_longestWalk_28 hl (by decide) rfl (fun ls hl => ?_)
      have loop_30 : ∀ (fu i : Nat), i + fu = n12 → ∀ (H : Heap) (locs : List Loc) (ls : Array Slot), va_P G vwCl (moT ca h a M) H → va_D A (moT ca h a M) → va_S A s.heap H locs → lv_has ls 7 [(0, .ref h), (1, .int (nI w)), (2, .int 0), (3, .int ((mlW (m_z M) w i).1)), (4, .int ((mlW (m_z M) w i).2)), (5, .int (nI i))] → W pr l en ({ frames := 5, cells := 0, slots := 0, locals := 115 } : Room) s m ([.ref h, .int (nI w), .int 0] : List Value).toArray be me c H locs 0 0 Q (F0 m 30 ls []) := by
        intro fu
        induction fu with
        | zero =>
          intro i hi H locs ls hP hD hS hl
          obtain rfl : n12 = i := by omega
          refine lv_iload hx hb dX5_longestWalk_30 (lv_at hl 5 rfl) ?_
          refine lv_bipush (v := nI 12) hx hb dX5_longestWalk_32 (by decide) ?_
          refine lv_icmp_ge (tgt := 82) hx hb dX5_longestWalk_34 (by decide) (fun c_3 => ?_) (fun c_3 => ?_)
          · skip
            refine lv_iload_n hx hb dX5_longestWalk_82 rfl (lv_at hl 2 rfl) ?_
            refine lv_if_ne (tgt := 90) hx hb dX5_longestWalk_83 (by decide) (fun c_4 => ?_) (fun c_4 => ?_)
            · skip
              exact absurd (by decide) c_4
            · skip
              refine lv_iload_n hx hb dX5_longestWalk_86 rfl (lv_at hl 3 rfl) ?_
              refine lv_goto (tgt := 92) hx hb dX5_longestWalk_87 (by decide) ?_
              exact hret _ _ _ _ hP hS dX5_longestWalk_92
          · skip
            exact absurd (nI_le (by omega) (by omega)) c_3
        | succ fu ih =>
          intro i hi H locs ls hP hD hS hl
          have hlt : i < n12 := by omega
          refine lv_iload hx hb dX5_longestWalk_30 (lv_at hl 5 rfl) ?_
          refine lv_bipush (v := nI 12) hx hb dX5_longestWalk_32 (by decide) ?_
          refine lv_icmp_ge (tgt := 82) hx hb dX5_longestWalk_34 (by decide) (fun c_5 => ?_) (fun c_5 => ?_)
          · skip
            exact absurd c_5 (nI_ge (by omega) (by omega))
          · skip
            refine lv_aload_n hx hb dX5_longestWalk_37 rfl (lv_at hl 0 rfl) ?_
            refine lv_iload_n hx hb dX5_longestWalk_38 rfl (lv_at hl 1 rfl) ?_
            refine lv_iload hx hb dX5_longestWalk_39 (lv_at hl 5 rfl) ?_
            refine lv_bipush (v := nI 11) hx hb dX5_longestWalk_41 (by decide) ?_
            refine goIw (va_runV (As := [.int (nI w), .int (nI i), .int (nI 11)]) (rest := []) ⟨hx, hb, hml, hown, hts⟩ (CtI.use (c_X5_allowed l G ca h a M w i 11 (by omega) (by omega) (by omega)) H.size) (cwV 3 hts gX5_longestWalk_X5_allowed rfl rfl rfl (by decide +kernel) ⟨Nat.le_of_ble_eq_true rfl, Nat.le_of_ble_eq_true rfl⟩) (pcW_V hev hP hD (q0 := 0) rfl rfl rfl) rfl rfl hl.1 rfl (lv_room (Nat.le_of_ble_eq_true rfl)) dX5_longestWalk_43 ⟨Nat.zero_le _, Nat.zero_le _⟩) hD hS hA moF (fun H locs hP hD hS => ?_)
            refine lv_istore (lv' := [(6, .int (nI (zAl (m_z M) w i 11))), (0, .ref h), (1, .int (nI w)), (2, .int 0), (3, .int ((mlW (m_z M) w i).1)), (4, .int ((mlW (m_z M) w i).2)), (5, .int (nI i))]) hx hb dX5_longestWalk_46 hl (by decide) rfl (fun ls hl => ?_)
            refine lv_iload hx hb dX5_longestWalk_48 (lv_at hl 0 rfl) ?_
            refine lv_iload_n hx hb dX5_longestWalk_50 rfl (lv_at hl 4 rfl) ?_
            refine lv_icmp_le (tgt := 59) hx hb dX5_longestWalk_51 (by decide) (fun c_6 => ?_) (fun c_6 => ?_)
            · skip
              refine lv_iload hx hb dX5_longestWalk_59 (lv_at hl 5 rfl) ?_
              refine lv_istore (lv' := [(4, .int ((mlW (m_z M) w i).2)), (6, .int (nI (zAl (m_z M) w i 11))), (0, .ref h), (1, .int (nI w)), (2, .int 0), (3, .int ((mlW (m_z M) w i).1)), (5, .int (nI i))]) hx hb dX5_longestWalk_61 hl (by decide) rfl (fun ls hl => ?_)
              refine lv_iload hx hb dX5_longestWalk_63 (lv_at hl 1 rfl) ?_
              refine lv_iload_n hx hb dX5_longestWalk_65 rfl (lv_at hl 5 rfl) ?_
              refine lv_icmp_le (tgt := 74) hx hb dX5_longestWalk_66 (by decide) (fun c_7 => ?_) (fun c_7 => ?_)
              · skip
                refine lv_iload_n hx hb dX5_longestWalk_74 rfl (lv_at hl 5 rfl) ?_
                refine lv_istore_n (lv' := [(3, .int ((mlW (m_z M) w i).1)), (4, .int ((mlW (m_z M) w i).2)), (6, .int (nI (zAl (m_z M) w i 11))), (0, .ref h), (1, .int (nI w)), (2, .int 0), (5, .int (nI i))]) hx hb dX5_longestWalk_75 rfl hl (by decide) rfl (fun ls hl => ?_)
                refine lv_iinc (v := nI (i + 1)) (lv' := [(5, .int (nI (i + 1))), (3, .int ((mlW (m_z M) w i).1)), (4, .int ((mlW (m_z M) w i).2)), (6, .int (nI (zAl (m_z M) w i 11))), (0, .ref h), (1, .int (nI w)), (2, .int 0)]) hx hb dX5_longestWalk_76 hl (k := 6) rfl (nI_1 _) (by decide) rfl (fun ls hl => ?_)
                refine lv_goto (tgt := 30) hx hb dX5_longestWalk_79 (by decide) ?_
                exact ih (i + 1) (by omega) _ _ _ hP (D_of hD moF) hS (by rw [show ((mlW (m_z M) w (i + 1)).1) = ((mlW (m_z M) w i).1) from by rw [mlW_s, if_pos c_6], show ((mlW (m_z M) w (i + 1)).2) = ((mlW (m_z M) w i).2) from by rw [mlW_s, if_pos c_6]]; exact lv_sub hl [4, 5, 6, 1, 2, 0] rfl)
              · skip
                exact absurd (by assumption) c_7
            · skip
              refine lv_iload hx hb dX5_longestWalk_54 (lv_at hl 6 rfl) ?_
              refine lv_goto (tgt := 61) hx hb dX5_longestWalk_56 (by decide) ?_
              refine lv_istore (lv' := [(4, .int (nI i)), (6, .int (nI (zAl (m_z M) w i 11))), (0, .ref h), (1, .int (nI w)), (2, .int 0), (3, .int ((mlW (m_z M) w i).1)), (5, .int (nI i))]) hx hb dX5_longestWalk_61 hl (by decide) rfl (fun ls hl => ?_)
              refine lv_iload hx hb dX5_longestWalk_63 (lv_at hl 1 rfl) ?_
              refine lv_iload_n hx hb dX5_longestWalk_65 rfl (lv_at hl 5 rfl) ?_
              refine lv_icmp_le (tgt := 74) hx hb dX5_longestWalk_66 (by decide) (fun c_8 => ?_) (fun c_8 => ?_)
              · skip
                exact absurd c_8 (by assumption)
              · skip
                refine lv_iload hx hb dX5_longestWalk_69 (lv_at hl 1 rfl) ?_
                refine lv_goto (tgt := 75) hx hb dX5_longestWalk_71 (by decide) ?_
                refine lv_istore_n (lv' := [(3, .int (nI (zAl (m_z M) w i 11))), (4, .int (nI i)), (6, .int (nI (zAl (m_z M) w i 11))), (0, .ref h), (1, .int (nI w)), (2, .int 0), (5, .int (nI i))]) hx hb dX5_longestWalk_75 rfl hl (by decide) rfl (fun ls hl => ?_)
                refine lv_iinc (v := nI (i + 1)) (lv' := [(5, .int (nI (i + 1))), (3, .int (nI (zAl (m_z M) w i 11))), (4, .int (nI i)), (6, .int (nI (zAl (m_z M) w i 11))), (0, .ref h), (1, .int (nI w)), (2, .int 0)]) hx hb dX5_longestWalk_76 hl (k := 6) rfl (nI_1 _) (by decide) rfl (fun ls hl => ?_)
                refine lv_goto (tgt := 30) hx hb dX5_longestWalk_79 (by decide) ?_
                exact ih (i + 1) (by omega) _ _ _ hP (D_of hD moF) hS (by rw [show ((mlW (m_z M) w (i + 1)).1) = (nI (zAl (m_z M) w i 11)) from by rw [mlW_s, if_neg c_6], show ((mlW (m_z M) w (i + 1)).2) = (nI i) from by rw [mlW_s, if_neg c_6]]; exact lv_sub hl [4, 5, 6, 1, 2, 0] rfl)
      exact loop_30 n12 0 (by omega) _ _ _ hP (D_of hD moF) hS (lv_sub hl [3, 4, 5, 2, 1, 0] rfl)
    · skip
      exact absurd c_2 (by decide)
  · skip
    exact absurd c_1 (by decide)
set_option maxHeartbeats 4000000 in
set_option maxRecDepth 100000 in
theorem c_X5_longestWalk_1 (l : Launch) (G : va_G) (ca : Nat → ClassId) (h : Nat) (a : Nat → Nat) (M : MM) (w : Nat) (n12 : Nat) (hw : w < 6) (h12 : n12 = 12) : CtI l yX5_longestWalk wsX5_longestWalk ({ frames := 5, cells := 0, slots := 0, locals := 115 }) [.ref h, .int (nI w), .int 1] G ca (moT ca h a M) (moT ca h a M) ((mlW (m_z M) w n12).2) := by
  refine CtI.ofW (cc := cX5_longestWalk) (maxL := 7) (rt := .int) (by decide) rfl (Nat.le_of_ble_eq_true rfl) rfl ?_
  intro pr en s m be me c A ls Q H hx hb hml hts hown hev hP hD hA hS hl hret
  have hown : s.vm.findClass RX5 = some m.cls := hown
  have hl : lv_has ls 7 [(0, .ref h), (1, .int (nI w)), (2, .int 1)] := hl
  have in_wsX50 : ∀ w ∈ wsX50, w ∈ wsX5_longestWalk := fun _ h => List.mem_cons_of_mem _ (List.mem_append_right _ h)
  refine lv_iload_n hx hb dX5_longestWalk_0 rfl (lv_at hl 1 rfl) ?_
  refine goI0 (va_runS (As := [.int (nI w)]) (rest := []) ⟨hx, hb, hml, hown, hts⟩ (CtI.use (c_X5_isWalker l G ca (nI w)) H.size) (va_cwS 1 hts gX5_longestWalk_X5_isWalker rfl rfl rfl (by decide +kernel) ⟨Nat.le_of_ble_eq_true rfl, Nat.le_of_ble_eq_true rfl⟩) (pcW_S hev P_nil (D_nil (A := A))) rfl rfl hl.1 rfl (lv_room (Nat.le_of_ble_eq_true rfl)) dX5_longestWalk_1 ⟨Nat.zero_le _, Nat.zero_le _⟩) hP hS hA (fun H locs hP hS => ?_)
  refine lv_eqi (y := 1) (by exact inC_w (by omega)) ?_
  refine lv_if_ne (tgt := 9) hx hb dX5_longestWalk_4 (by decide) (fun c_1 => ?_) (fun c_1 => ?_)
  · skip
    refine lv_iload_n hx hb dX5_longestWalk_9 rfl (lv_at hl 2 rfl) ?_
    refine lv_iconst (v := 0) hx hb dX5_longestWalk_10 (by decide) ?_
    refine lv_iconst (v := 1) hx hb dX5_longestWalk_11 (by decide) ?_
    refine goI0 (va_runS (As := [.int 1, .int 0, .int 1]) (rest := []) ⟨hx, hb, hml, hown, hts⟩ (CtI.use (c_X5_in l G ca 1 0 1) H.size) (va_cwS 3 hts gX5_longestWalk_X5_in rfl rfl rfl (by decide +kernel) ⟨Nat.le_of_ble_eq_true rfl, Nat.le_of_ble_eq_true rfl⟩) (pcW_S hev P_nil (D_nil (A := A))) rfl rfl hl.1 rfl (lv_room (Nat.le_of_ble_eq_true rfl)) dX5_longestWalk_12 ⟨Nat.zero_le _, Nat.zero_le _⟩) hP hS hA (fun H locs hP hS => ?_)
    refine lv_eqi (y := 1) (by decide) ?_
    refine lv_if_ne (tgt := 21) hx hb dX5_longestWalk_15 (by decide) (fun c_2 => ?_) (fun c_2 => ?_)
    · skip
      refine lv_iconst (v := 0) hx hb dX5_longestWalk_21 (by decide) ?_
      refine lv_istore_n (lv' := [(3, .int 0), (0, .ref h), (1, .int (nI w)), (2, .int 1)]) hx hb dX5_longestWalk_22 rfl hl (by decide) rfl (fun ls hl => ?_)
      refine lv_bipush (v := (-6)) hx hb dX5_longestWalk_23 (by decide) ?_
      refine lv_istore (lv' := [(4, .int (-6)), (3, .int 0), (0, .ref h), (1, .int (nI w)), (2, .int 1)]) hx hb dX5_longestWalk_25 hl (by decide) rfl (fun ls hl => ?_)
      refine lv_iconst (v := nI 0) hx hb dX5_longestWalk_27 (by decide) ?_
      refine lv_istore (lv' := [(5, .int (nI 0)), (4, .int (-6)), (3, .int 0), (0, .ref h), (1, .int (nI w)), (2, .int 1)]) hx hb dX5_longestWalk_28 hl (by decide) rfl (fun ls hl => ?_)
      have loop_30 : ∀ (fu i : Nat), i + fu = n12 → ∀ (H : Heap) (locs : List Loc) (ls : Array Slot), va_P G vwCl (moT ca h a M) H → va_D A (moT ca h a M) → va_S A s.heap H locs → lv_has ls 7 [(0, .ref h), (1, .int (nI w)), (2, .int 1), (3, .int ((mlW (m_z M) w i).1)), (4, .int ((mlW (m_z M) w i).2)), (5, .int (nI i))] → W pr l en ({ frames := 5, cells := 0, slots := 0, locals := 115 } : Room) s m ([.ref h, .int (nI w), .int 1] : List Value).toArray be me c H locs 0 0 Q (F0 m 30 ls []) := by
        intro fu
        induction fu with
        | zero =>
          intro i hi H locs ls hP hD hS hl
          obtain rfl : n12 = i := by omega
          refine lv_iload hx hb dX5_longestWalk_30 (lv_at hl 5 rfl) ?_
          refine lv_bipush (v := nI 12) hx hb dX5_longestWalk_32 (by decide) ?_
          refine lv_icmp_ge (tgt := 82) hx hb dX5_longestWalk_34 (by decide) (fun c_3 => ?_) (fun c_3 => ?_)
          · skip
            refine lv_iload_n hx hb dX5_longestWalk_82 rfl (lv_at hl 2 rfl) ?_
            refine lv_if_ne (tgt := 90) hx hb dX5_longestWalk_83 (by decide) (fun c_4 => ?_) (fun c_4 => ?_)
            · skip
              refine lv_iload hx hb dX5_longestWalk_90 (lv_at hl 4 rfl) ?_
              exact hret _ _ _ _ hP hS dX5_longestWalk_92
            · skip
              exact absurd c_4 (by decide)
          · skip
            exact absurd (nI_le (by omega) (by omega)) c_3
        | succ fu ih =>
          intro i hi H locs ls hP hD hS hl
          have hlt : i < n12 := by omega
          refine lv_iload hx hb dX5_longestWalk_30 (lv_at hl 5 rfl) ?_
          refine lv_bipush (v := nI 12) hx hb dX5_longestWalk_32 (by decide) ?_
          refine lv_icmp_ge (tgt := 82) hx hb dX5_longestWalk_34 (by decide) (fun c_5 => ?_) (fun c_5 => ?_)
          · skip
            exact absurd c_5 (nI_ge (by omega) (by omega))
          · skip
            refine lv_aload_n hx hb dX5_longestWalk_37 rfl (lv_at hl 0 rfl) ?_
            refine lv_iload_n hx hb dX5_longestWalk_38 rfl (lv_at hl 1 rfl) ?_
            refine lv_iload hx hb dX5_longestWalk_39 (lv_at hl 5 rfl) ?_
            refine lv_bipush (v := nI 11) hx hb dX5_longestWalk_41 (by decide) ?_
            refine goIw (va_runV (As := [.int (nI w), .int (nI i), .int (nI 11)]) (rest := []) ⟨hx, hb, hml, hown, hts⟩ (CtI.use (c_X5_allowed l G ca h a M w i 11 (by omega) (by omega) (by omega)) H.size) (cwV 3 hts gX5_longestWalk_X5_allowed rfl rfl rfl (by decide +kernel) ⟨Nat.le_of_ble_eq_true rfl, Nat.le_of_ble_eq_true rfl⟩) (pcW_V hev hP hD (q0 := 0) rfl rfl rfl) rfl rfl hl.1 rfl (lv_room (Nat.le_of_ble_eq_true rfl)) dX5_longestWalk_43 ⟨Nat.zero_le _, Nat.zero_le _⟩) hD hS hA moF (fun H locs hP hD hS => ?_)
            refine lv_istore (lv' := [(6, .int (nI (zAl (m_z M) w i 11))), (0, .ref h), (1, .int (nI w)), (2, .int 1), (3, .int ((mlW (m_z M) w i).1)), (4, .int ((mlW (m_z M) w i).2)), (5, .int (nI i))]) hx hb dX5_longestWalk_46 hl (by decide) rfl (fun ls hl => ?_)
            refine lv_iload hx hb dX5_longestWalk_48 (lv_at hl 0 rfl) ?_
            refine lv_iload_n hx hb dX5_longestWalk_50 rfl (lv_at hl 4 rfl) ?_
            refine lv_icmp_le (tgt := 59) hx hb dX5_longestWalk_51 (by decide) (fun c_6 => ?_) (fun c_6 => ?_)
            · skip
              refine lv_iload hx hb dX5_longestWalk_59 (lv_at hl 5 rfl) ?_
              refine lv_istore (lv' := [(4, .int ((mlW (m_z M) w i).2)), (6, .int (nI (zAl (m_z M) w i 11))), (0, .ref h), (1, .int (nI w)), (2, .int 1), (3, .int ((mlW (m_z M) w i).1)), (5, .int (nI i))]) hx hb dX5_longestWalk_61 hl (by decide) rfl (fun ls hl => ?_)
              refine lv_iload hx hb dX5_longestWalk_63 (lv_at hl 1 rfl) ?_
              refine lv_iload_n hx hb dX5_longestWalk_65 rfl (lv_at hl 5 rfl) ?_
              refine lv_icmp_le (tgt := 74) hx hb dX5_longestWalk_66 (by decide) (fun c_7 => ?_) (fun c_7 => ?_)
              · skip
                refine lv_iload_n hx hb dX5_longestWalk_74 rfl (lv_at hl 5 rfl) ?_
                refine lv_istore_n (lv' := [(3, .int ((mlW (m_z M) w i).1)), (4, .int ((mlW (m_z M) w i).2)), (6, .int (nI (zAl (m_z M) w i 11))), (0, .ref h), (1, .int (nI w)), (2, .int 1), (5, .int (nI i))]) hx hb dX5_longestWalk_75 rfl hl (by decide) rfl (fun ls hl => ?_)
                refine lv_iinc (v := nI (i + 1)) (lv' := [(5, .int (nI (i + 1))), (3, .int ((mlW (m_z M) w i).1)), (4, .int ((mlW (m_z M) w i).2)), (6, .int (nI (zAl (m_z M) w i 11))), (0, .ref h), (1, .int (nI w)), (2, .int 1)]) hx hb dX5_longestWalk_76 hl (k := 6) rfl (nI_1 _) (by decide) rfl (fun ls hl => ?_)
                refine lv_goto (tgt := 30) hx hb dX5_longestWalk_79 (by decide) ?_
                exact ih (i + 1) (by omega) _ _ _ hP (D_of hD moF) hS (by rw [show ((mlW (m_z M) w (i + 1)).1) = ((mlW (m_z M) w i).1) from by rw [mlW_s, if_pos c_6], show ((mlW (m_z M) w (i + 1)).2) = ((mlW (m_z M) w i).2) from by rw [mlW_s, if_pos c_6]]; exact lv_sub hl [4, 5, 6, 1, 2, 0] rfl)
              · skip
                exact absurd (by assumption) c_7
            · skip
              refine lv_iload hx hb dX5_longestWalk_54 (lv_at hl 6 rfl) ?_
              refine lv_goto (tgt := 61) hx hb dX5_longestWalk_56 (by decide) ?_
              refine lv_istore (lv' := [(4, .int (nI i)), (6, .int (nI (zAl (m_z M) w i 11))), (0, .ref h), (1, .int (nI w)), (2, .int 1), (3, .int ((mlW (m_z M) w i).1)), (5, .int (nI i))]) hx hb dX5_longestWalk_61 hl (by decide) rfl (fun ls hl => ?_)
              refine lv_iload hx hb dX5_longestWalk_63 (lv_at hl 1 rfl) ?_
              refine lv_iload_n hx hb dX5_longestWalk_65 rfl (lv_at hl 5 rfl) ?_
              refine lv_icmp_le (tgt := 74) hx hb dX5_longestWalk_66 (by decide) (fun c_8 => ?_) (fun c_8 => ?_)
              · skip
                exact absurd c_8 (by assumption)
              · skip
                refine lv_iload hx hb dX5_longestWalk_69 (lv_at hl 1 rfl) ?_
                refine lv_goto (tgt := 75) hx hb dX5_longestWalk_71 (by decide) ?_
                refine lv_istore_n (lv' := [(3, .int (nI (zAl (m_z M) w i 11))), (4, .int (nI i)), (6, .int (nI (zAl (m_z M) w i 11))), (0, .ref h), (1, .int (nI w)), (2, .int 1), (5, .int (nI i))]) hx hb dX5_longestWalk_75 rfl hl (by decide) rfl (fun ls hl => ?_)
                refine lv_iinc (v := nI (i + 1)) (lv' := [(5, .int (nI (i + 1))), (3, .int (nI (zAl (m_z M) w i 11))), (4, .int (nI i)), (6, .int (nI (zAl (m_z M) w i 11))), (0, .ref h), (1, .int (nI w)), (2, .int 1)]) hx hb dX5_longestWalk_76 hl (k := 6) rfl (nI_1 _) (by decide) rfl (fun ls hl => ?_)
                refine lv_goto (tgt := 30) hx hb dX5_longestWalk_79 (by decide) ?_
                exact ih (i + 1) (by omega) _ _ _ hP (D_of hD moF) hS (by rw [show ((mlW (m_z M) w (i + 1)).1) = (nI (zAl (m_z M) w i 11)) from by rw [mlW_s, if_neg c_6], show ((mlW (m_z M) w (i + 1)).2) = (nI i) from by rw [mlW_s, if_neg c_6]]; exact lv_sub hl [4, 5, 6, 1, 2, 0] rfl)
      exact loop_30 n12 0 (by omega) _ _ _ hP (D_of hD moF) hS (lv_sub hl [3, 4, 5, 2, 1, 0] rfl)
    · skip
      exact absurd c_2 (by decide)
  · skip
    exact absurd c_1 (by decide)
set_option maxHeartbeats 4000000 in
set_option maxRecDepth 100000 in
theorem c_X5_undo_none (l : Launch) (G : va_G) (ca : Nat → ClassId) (h : Nat) (a : Nat → Nat) (M : MM) (k6 : Nat) (hst : m_states M = nI k6) (hk0 : k6 = 0) : CtI l yX5_undo wsX5_undo ({ frames := 0, cells := 0, slots := 0, locals := 0 }) [.ref h] G ca (moT ca h a M) (moT ca h a M) (-5) := by
  refine CtI.ofW (cc := cX5_undo) (maxL := 1) (rt := .int) (by decide) rfl (Nat.le_of_ble_eq_true rfl) rfl ?_
  intro pr en s m be me c A ls Q H hx hb hml hts hown hev hP hD hA hS hl hret
  have hown : s.vm.findClass RX5 = some m.cls := hown
  have hl : lv_has ls 1 [(0, .ref h)] := hl
  have in_wsX50 : ∀ w ∈ wsX50, w ∈ wsX5_undo := fun _ h => List.mem_cons_of_mem _ (List.mem_append_right _ h)
  refine lv_aload_n hx hb dX5_undo_0 rfl (lv_at hl 0 rfl) ?_
  refine va_get (D := G) (ci := 5) (v := .int (m_states M)) (C := RX5) (T := TX5) (N := 10) hx hb hts in_wsX50 hown hev.1 hP 0 rfl rfl 2 (by decide) (hts (.fieldLink RX5 41 "PuddleMinistriesModel" "states" "I") (List.mem_of_getElem? (i := 1) rfl)) (fun _ h9 => h9) rfl dX5_undo_1 ?_
  refine lv_eqi hst ?_
  refine lv_if_ne (tgt := 10) hx hb dX5_undo_4 (by decide) (fun c_1 => ?_) (fun c_1 => ?_)
  · skip
    exact absurd (by rw [hk0]; rfl) c_1
  · skip
    refine lv_bipush (v := (-5)) hx hb dX5_undo_7 (by decide) ?_
    exact hret _ _ _ _ hP hS dX5_undo_9
set_option maxHeartbeats 4000000 in
set_option maxRecDepth 100000 in
theorem c_X5_undo_ok (l : Launch) (G : va_G) (ca : Nat → ClassId) (h : Nat) (a : Nat → Nat) (M : MM) (k6 : Nat) (hst : m_states M = nI k6) (hk0 : 0 < k6) (hk6 : k6 ≤ 6) : CtI l yX5_undo wsX5_undo ({ frames := 1, cells := 0, slots := 0, locals := 24 }) [.ref h] G ca (moT ca h a M) (moT ca h a (cpA (m_past M) (164 * (k6 - 1)) (m_z M) 0 164, m_past M, nI (k6 - 1), m_slots M, m_isSaved M, m_pad M, m_typed M, m_spot M, m_told M, m_toldMany M)) (nI (k6 - 1)) := by
  refine CtI.ofW (cc := cX5_undo) (maxL := 1) (rt := .int) (by decide) rfl (Nat.le_of_ble_eq_true rfl) rfl ?_
  intro pr en s m be me c A ls Q H hx hb hml hts hown hev hP hD hA hS hl hret
  have hown : s.vm.findClass RX5 = some m.cls := hown
  have hl : lv_has ls 1 [(0, .ref h)] := hl
  have in_wsX50 : ∀ w ∈ wsX50, w ∈ wsX5_undo := fun _ h => List.mem_cons_of_mem _ (List.mem_append_right _ h)
  refine lv_aload_n hx hb dX5_undo_0 rfl (lv_at hl 0 rfl) ?_
  refine va_get (D := G) (ci := 5) (v := .int (m_states M)) (C := RX5) (T := TX5) (N := 10) hx hb hts in_wsX50 hown hev.1 hP 0 rfl rfl 2 (by decide) (hts (.fieldLink RX5 41 "PuddleMinistriesModel" "states" "I") (List.mem_of_getElem? (i := 1) rfl)) (fun _ h9 => h9) rfl dX5_undo_1 ?_
  refine lv_eqi hst ?_
  refine lv_if_ne (tgt := 10) hx hb dX5_undo_4 (by decide) (fun c_1 => ?_) (fun c_1 => ?_)
  · skip
    refine lv_aload_n hx hb dX5_undo_10 rfl (lv_at hl 0 rfl) ?_
    refine lv_dup hx hb dX5_undo_11 rfl ?_
    refine va_get (D := G) (ci := 5) (v := .int (m_states M)) (C := RX5) (T := TX5) (N := 10) hx hb hts in_wsX50 hown hev.1 hP 0 rfl rfl 2 (by decide) (hts (.fieldLink RX5 41 "PuddleMinistriesModel" "states" "I") (List.mem_of_getElem? (i := 1) rfl)) (fun _ h9 => h9) rfl dX5_undo_12 ?_
    refine lv_eqi hst ?_
    refine lv_iconst (v := nI 1) hx hb dX5_undo_15 (by decide) ?_
    refine lv_isub hx hb dX5_undo_16 ?_
    refine lv_eqi (pk_sub (by omega)) ?_
    refine va_put (D := G) (ci := 5) (v := .int (nI (k6 - 1))) (ty := .int) (C := RX5) (T := TX5) (N := 10) hx hb hts in_wsX50 tyX5 tyX5_ok nmX5 hown hev.1 hP hD hS 0 rfl rfl 2 (by decide) (hts (.fieldLink RX5 41 "PuddleMinistriesModel" "states" "I") (List.mem_of_getElem? (i := 1) rfl)) (fun _ h9 => h9) rfl (by decide +kernel) rfl rfl (Nat.le_of_ble_eq_true rfl) dX5_undo_17 (fun H locs hP hD hS => ?_)
    have hP : va_P G vwCl (moT ca h a (m_z M, m_past M, nI (k6 - 1), m_slots M, m_isSaved M, m_pad M, m_typed M, m_spot M, m_told M, m_toldMany M)) H := hP
    have hD : va_D A (moT ca h a (m_z M, m_past M, nI (k6 - 1), m_slots M, m_isSaved M, m_pad M, m_typed M, m_spot M, m_told M, m_toldMany M)) := hD
    refine lv_aload_n hx hb dX5_undo_20 rfl (lv_at hl 0 rfl) ?_
    refine va_get (D := G) (ci := 5) (v := .ref (a 1)) (C := RX5) (T := TX5) (N := 10) hx hb hts in_wsX50 hown hev.1 hP 0 rfl rfl 1 (by decide) (hts (.fieldLink RX5 13 "PuddleMinistriesModel" "past" "[I") (List.mem_of_getElem? (i := 2) rfl)) (fun _ h9 => h9) rfl dX5_undo_21 ?_
    refine lv_sipush (v := nI 164) hx hb dX5_undo_24 (by decide) ?_
    refine lv_aload_n hx hb dX5_undo_27 rfl (lv_at hl 0 rfl) ?_
    refine va_get (D := G) (ci := 5) (v := .int (nI (k6 - 1))) (C := RX5) (T := TX5) (N := 10) hx hb hts in_wsX50 hown hev.1 hP 0 rfl rfl 2 (by decide) (hts (.fieldLink RX5 41 "PuddleMinistriesModel" "states" "I") (List.mem_of_getElem? (i := 1) rfl)) (fun _ h9 => h9) rfl dX5_undo_28 ?_
    refine lv_imul hx hb dX5_undo_31 ?_
    refine lv_eqi (pk_mul _ _) ?_
    refine lv_aload_n hx hb dX5_undo_32 rfl (lv_at hl 0 rfl) ?_
    refine va_get (D := G) (ci := 5) (v := .ref (a 0)) (C := RX5) (T := TX5) (N := 10) hx hb hts in_wsX50 hown hev.1 hP 0 rfl rfl 0 (by decide) (hts (.fieldLink RX5 7 "PuddleMinistriesModel" "z" "[I") (List.mem_of_getElem? (i := 3) rfl)) (fun _ h9 => h9) rfl dX5_undo_33 ?_
    refine lv_iconst (v := nI 0) hx hb dX5_undo_36 (by decide) ?_
    refine goVw (va_runS (As := [.ref (a 1), .int (nI (164 * (k6 - 1))), .ref (a 0), .int (nI 0)]) (rest := []) ⟨hx, hb, hml, hown, hts⟩ (CtV.use (c_X5_copyState l G ca (moT ca h a (m_z M, m_past M, nI (k6 - 1), m_slots M, m_isSaved M, m_pad M, m_typed M, m_spot M, m_told M, m_toldMany M)) 2 1 (a 1) (a 0) 984 164 (m_past M) (m_z M) (164 * (k6 - 1)) 0 rfl rfl (by decide) (by decide) (by decide) (by omega) (by omega)) H.size) (va_cwS 4 hts gX5_undo_X5_copyState rfl rfl rfl (by decide +kernel) ⟨Nat.le_of_ble_eq_true rfl, Nat.le_of_ble_eq_true rfl⟩) (pcW_S hev hP hD) rfl rfl hl.1 rfl (lv_room (Nat.le_of_ble_eq_true rfl)) dX5_undo_37 ⟨Nat.zero_le _, Nat.zero_le _⟩) hD hS hA rfl (fun H locs hP hD hS => ?_)
    have hP : va_P G vwCl (moT ca h a (cpA (m_past M) (164 * (k6 - 1)) (m_z M) 0 164, m_past M, nI (k6 - 1), m_slots M, m_isSaved M, m_pad M, m_typed M, m_spot M, m_told M, m_toldMany M)) H := hP
    have hD : va_D A (moT ca h a (cpA (m_past M) (164 * (k6 - 1)) (m_z M) 0 164, m_past M, nI (k6 - 1), m_slots M, m_isSaved M, m_pad M, m_typed M, m_spot M, m_told M, m_toldMany M)) := hD
    refine lv_aload_n hx hb dX5_undo_40 rfl (lv_at hl 0 rfl) ?_
    refine va_get (D := G) (ci := 5) (v := .int (nI (k6 - 1))) (C := RX5) (T := TX5) (N := 10) hx hb hts in_wsX50 hown hev.1 hP 0 rfl rfl 2 (by decide) (hts (.fieldLink RX5 41 "PuddleMinistriesModel" "states" "I") (List.mem_of_getElem? (i := 1) rfl)) (fun _ h9 => h9) rfl dX5_undo_41 ?_
    exact hret _ _ _ _ hP hS dX5_undo_44
  · skip
    exact absurd c_1 (nI_ne0 hk0 (by omega))
set_option maxHeartbeats 4000000 in
set_option maxRecDepth 100000 in
theorem c_X5_save_out (l : Launch) (G : va_G) (ca : Nat → ClassId) (h : Nat) (a : Nat → Nat) (M : MM) (x : Int32) (hx0 : x < 0 ∨ nI 2 ≤ x) : CtI l yX5_save wsX5_save ({ frames := 1, cells := 0, slots := 0, locals := 22 }) [.ref h, .int x] G ca (moT ca h a M) (moT ca h a M) (-2) := by
  refine CtI.ofW (cc := cX5_save) (maxL := 2) (rt := .int) (by decide) rfl (Nat.le_of_ble_eq_true rfl) rfl ?_
  intro pr en s m be me c A ls Q H hx hb hml hts hown hev hP hD hA hS hl hret
  have hown : s.vm.findClass RX5 = some m.cls := hown
  have hl : lv_has ls 2 [(0, .ref h), (1, .int x)] := hl
  have in_wsX50 : ∀ w ∈ wsX50, w ∈ wsX5_save := fun _ h => List.mem_cons_of_mem _ (List.mem_append_right _ h)
  refine lv_iload_n hx hb dX5_save_0 rfl (lv_at hl 1 rfl) ?_
  refine lv_iconst (v := 0) hx hb dX5_save_1 (by decide) ?_
  refine lv_iconst (v := 1) hx hb dX5_save_2 (by decide) ?_
  refine goI0 (va_runS (As := [.int x, .int 0, .int 1]) (rest := []) ⟨hx, hb, hml, hown, hts⟩ (CtI.use (c_X5_in l G ca x 0 1) H.size) (va_cwS 3 hts gX5_save_X5_in rfl rfl rfl (by decide +kernel) ⟨Nat.le_of_ble_eq_true rfl, Nat.le_of_ble_eq_true rfl⟩) (pcW_S hev P_nil (D_nil (A := A))) rfl rfl hl.1 rfl (lv_room (Nat.le_of_ble_eq_true rfl)) dX5_save_3 ⟨Nat.zero_le _, Nat.zero_le _⟩) hP hS hA (fun H locs hP hS => ?_)
  refine lv_eqi (y := 0) (by exact inC_ko hx0) ?_
  refine lv_if_ne (tgt := 12) hx hb dX5_save_6 (by decide) (fun c_1 => ?_) (fun c_1 => ?_)
  · skip
    exact absurd (by decide) c_1
  · skip
    refine lv_bipush (v := (-2)) hx hb dX5_save_9 (by decide) ?_
    exact hret _ _ _ _ hP hS dX5_save_11
set_option maxHeartbeats 4000000 in
set_option maxRecDepth 100000 in
theorem c_X5_restore_out (l : Launch) (G : va_G) (ca : Nat → ClassId) (h : Nat) (a : Nat → Nat) (M : MM) (x : Int32) (hx0 : x < 0 ∨ nI 2 ≤ x) : CtI l yX5_restore wsX5_restore ({ frames := 1, cells := 0, slots := 0, locals := 22 }) [.ref h, .int x] G ca (moT ca h a M) (moT ca h a M) (-2) := by
  refine CtI.ofW (cc := cX5_restore) (maxL := 2) (rt := .int) (by decide) rfl (Nat.le_of_ble_eq_true rfl) rfl ?_
  intro pr en s m be me c A ls Q H hx hb hml hts hown hev hP hD hA hS hl hret
  have hown : s.vm.findClass RX5 = some m.cls := hown
  have hl : lv_has ls 2 [(0, .ref h), (1, .int x)] := hl
  have in_wsX50 : ∀ w ∈ wsX50, w ∈ wsX5_restore := fun _ h => List.mem_cons_of_mem _ (List.mem_append_right _ h)
  refine lv_iload_n hx hb dX5_restore_0 rfl (lv_at hl 1 rfl) ?_
  refine lv_iconst (v := 0) hx hb dX5_restore_1 (by decide) ?_
  refine lv_iconst (v := 1) hx hb dX5_restore_2 (by decide) ?_
  refine goI0 (va_runS (As := [.int x, .int 0, .int 1]) (rest := []) ⟨hx, hb, hml, hown, hts⟩ (CtI.use (c_X5_in l G ca x 0 1) H.size) (va_cwS 3 hts gX5_restore_X5_in rfl rfl rfl (by decide +kernel) ⟨Nat.le_of_ble_eq_true rfl, Nat.le_of_ble_eq_true rfl⟩) (pcW_S hev P_nil (D_nil (A := A))) rfl rfl hl.1 rfl (lv_room (Nat.le_of_ble_eq_true rfl)) dX5_restore_3 ⟨Nat.zero_le _, Nat.zero_le _⟩) hP hS hA (fun H locs hP hS => ?_)
  refine lv_eqi (y := 0) (by exact inC_ko hx0) ?_
  refine lv_if_ne (tgt := 12) hx hb dX5_restore_6 (by decide) (fun c_1 => ?_) (fun c_1 => ?_)
  · skip
    exact absurd (by decide) c_1
  · skip
    refine lv_bipush (v := (-2)) hx hb dX5_restore_9 (by decide) ?_
    exact hret _ _ _ _ hP hS dX5_restore_11
set_option maxHeartbeats 4000000 in
set_option maxRecDepth 100000 in
theorem c_X5_save_ok (l : Launch) (G : va_G) (ca : Nat → ClassId) (h : Nat) (a : Nat → Nat) (M : MM) (k : Nat) (hk2 : k < 2) : CtI l yX5_save wsX5_save ({ frames := 1, cells := 0, slots := 0, locals := 24 }) [.ref h, .int (nI k)] G ca (moT ca h a M) (moT ca h a (m_z M, m_past M, m_states M, cpA (m_z M) 0 (m_slots M) (164 * k) 164, upd (m_isSaved M) k 1, m_pad M, m_typed M, m_spot M, m_told M, m_toldMany M)) (m_z M 4) := by
  refine CtI.ofW (cc := cX5_save) (maxL := 2) (rt := .int) (by decide) rfl (Nat.le_of_ble_eq_true rfl) rfl ?_
  intro pr en s m be me c A ls Q H hx hb hml hts hown hev hP hD hA hS hl hret
  have hown : s.vm.findClass RX5 = some m.cls := hown
  have hl : lv_has ls 2 [(0, .ref h), (1, .int (nI k))] := hl
  have in_wsX50 : ∀ w ∈ wsX50, w ∈ wsX5_save := fun _ h => List.mem_cons_of_mem _ (List.mem_append_right _ h)
  refine lv_iload_n hx hb dX5_save_0 rfl (lv_at hl 1 rfl) ?_
  refine lv_iconst (v := 0) hx hb dX5_save_1 (by decide) ?_
  refine lv_iconst (v := 1) hx hb dX5_save_2 (by decide) ?_
  refine goI0 (va_runS (As := [.int (nI k), .int 0, .int 1]) (rest := []) ⟨hx, hb, hml, hown, hts⟩ (CtI.use (c_X5_in l G ca (nI k) 0 1) H.size) (va_cwS 3 hts gX5_save_X5_in rfl rfl rfl (by decide +kernel) ⟨Nat.le_of_ble_eq_true rfl, Nat.le_of_ble_eq_true rfl⟩) (pcW_S hev P_nil (D_nil (A := A))) rfl rfl hl.1 rfl (lv_room (Nat.le_of_ble_eq_true rfl)) dX5_save_3 ⟨Nat.zero_le _, Nat.zero_le _⟩) hP hS hA (fun H locs hP hS => ?_)
  refine lv_eqi (y := 1) (by exact inC_k hk2) ?_
  refine lv_if_ne (tgt := 12) hx hb dX5_save_6 (by decide) (fun c_1 => ?_) (fun c_1 => ?_)
  · skip
    refine lv_aload_n hx hb dX5_save_12 rfl (lv_at hl 0 rfl) ?_
    refine va_get (D := G) (ci := 5) (v := .ref (a 0)) (C := RX5) (T := TX5) (N := 10) hx hb hts in_wsX50 hown hev.1 hP 0 rfl rfl 0 (by decide) (hts (.fieldLink RX5 7 "PuddleMinistriesModel" "z" "[I") (List.mem_of_getElem? (i := 1) rfl)) (fun _ h9 => h9) rfl dX5_save_13 ?_
    refine lv_iconst (v := nI 0) hx hb dX5_save_16 (by decide) ?_
    refine lv_aload_n hx hb dX5_save_17 rfl (lv_at hl 0 rfl) ?_
    refine va_get (D := G) (ci := 5) (v := .ref (a 2)) (C := RX5) (T := TX5) (N := 10) hx hb hts in_wsX50 hown hev.1 hP 0 rfl rfl 3 (by decide) (hts (.fieldLink RX5 16 "PuddleMinistriesModel" "slots" "[I") (List.mem_of_getElem? (i := 2) rfl)) (fun _ h9 => h9) rfl dX5_save_18 ?_
    refine lv_sipush (v := nI 164) hx hb dX5_save_21 (by decide) ?_
    refine lv_iload_n hx hb dX5_save_24 rfl (lv_at hl 1 rfl) ?_
    refine lv_imul hx hb dX5_save_25 ?_
    refine lv_eqi (pk_mul _ _) ?_
    refine goVw (va_runS (As := [.ref (a 0), .int (nI 0), .ref (a 2), .int (nI (164 * k))]) (rest := []) ⟨hx, hb, hml, hown, hts⟩ (CtV.use (c_X5_copyState l G ca (moT ca h a M) 1 3 (a 0) (a 2) 164 328 (m_z M) (m_slots M) 0 (164 * k) rfl rfl (by decide) (by decide) (by decide) (by omega) (by omega)) H.size) (va_cwS 4 hts gX5_save_X5_copyState rfl rfl rfl (by decide +kernel) ⟨Nat.le_of_ble_eq_true rfl, Nat.le_of_ble_eq_true rfl⟩) (pcW_S hev hP hD) rfl rfl hl.1 rfl (lv_room (Nat.le_of_ble_eq_true rfl)) dX5_save_26 ⟨Nat.zero_le _, Nat.zero_le _⟩) hD hS hA rfl (fun H locs hP hD hS => ?_)
    have hP : va_P G vwCl (moT ca h a (m_z M, m_past M, m_states M, cpA (m_z M) 0 (m_slots M) (164 * k) 164, m_isSaved M, m_pad M, m_typed M, m_spot M, m_told M, m_toldMany M)) H := hP
    have hD : va_D A (moT ca h a (m_z M, m_past M, m_states M, cpA (m_z M) 0 (m_slots M) (164 * k) 164, m_isSaved M, m_pad M, m_typed M, m_spot M, m_told M, m_toldMany M)) := hD
    refine lv_aload_n hx hb dX5_save_29 rfl (lv_at hl 0 rfl) ?_
    refine va_get (D := G) (ci := 5) (v := .ref (a 3)) (C := RX5) (T := TX5) (N := 10) hx hb hts in_wsX50 hown hev.1 hP 0 rfl rfl 4 (by decide) (hts (.fieldLink RX5 19 "PuddleMinistriesModel" "isSaved" "[Z") (List.mem_of_getElem? (i := 3) rfl)) (fun _ h9 => h9) rfl dX5_save_30 ?_
    refine lv_iload_n hx hb dX5_save_33 rfl (lv_at hl 1 rfl) ?_
    refine lv_iconst (v := 1) hx hb dX5_save_34 (by decide) ?_
    refine b_zast hx hb hev.1 hP hD hS 4 rfl rfl (j := k) (by omega) (by decide) dX5_save_35 (fun H locs hP hD hS => ?_)
    have hP : va_P G vwCl (moT ca h a (m_z M, m_past M, m_states M, cpA (m_z M) 0 (m_slots M) (164 * k) 164, upd (m_isSaved M) k 1, m_pad M, m_typed M, m_spot M, m_told M, m_toldMany M)) H := hP
    have hD : va_D A (moT ca h a (m_z M, m_past M, m_states M, cpA (m_z M) 0 (m_slots M) (164 * k) 164, upd (m_isSaved M) k 1, m_pad M, m_typed M, m_spot M, m_told M, m_toldMany M)) := hD
    refine lv_aload_n hx hb dX5_save_36 rfl (lv_at hl 0 rfl) ?_
    refine va_get (D := G) (ci := 5) (v := .ref (a 0)) (C := RX5) (T := TX5) (N := 10) hx hb hts in_wsX50 hown hev.1 hP 0 rfl rfl 0 (by decide) (hts (.fieldLink RX5 7 "PuddleMinistriesModel" "z" "[I") (List.mem_of_getElem? (i := 1) rfl)) (fun _ h9 => h9) rfl dX5_save_37 ?_
    refine lv_iconst (v := nI 4) hx hb dX5_save_40 (by decide) ?_
    refine b_iald hx hb hev.1 hP 1 rfl rfl (j := 4) (by omega) (by decide) dX5_save_41 ?_
    refine lv_eqi (y := m_z M 4) rfl ?_
    exact hret _ _ _ _ hP hS dX5_save_42
  · skip
    exact absurd c_1 (by decide)
set_option maxHeartbeats 4000000 in
set_option maxRecDepth 100000 in
theorem c_X5_restore_none (l : Launch) (G : va_G) (ca : Nat → ClassId) (h : Nat) (a : Nat → Nat) (M : MM) (k : Nat) (hk2 : k < 2) (hu : m_isSaved M k = 0) : CtI l yX5_restore wsX5_restore ({ frames := 1, cells := 0, slots := 0, locals := 22 }) [.ref h, .int (nI k)] G ca (moT ca h a M) (moT ca h a M) (-5) := by
  refine CtI.ofW (cc := cX5_restore) (maxL := 2) (rt := .int) (by decide) rfl (Nat.le_of_ble_eq_true rfl) rfl ?_
  intro pr en s m be me c A ls Q H hx hb hml hts hown hev hP hD hA hS hl hret
  have hown : s.vm.findClass RX5 = some m.cls := hown
  have hl : lv_has ls 2 [(0, .ref h), (1, .int (nI k))] := hl
  have in_wsX50 : ∀ w ∈ wsX50, w ∈ wsX5_restore := fun _ h => List.mem_cons_of_mem _ (List.mem_append_right _ h)
  refine lv_iload_n hx hb dX5_restore_0 rfl (lv_at hl 1 rfl) ?_
  refine lv_iconst (v := 0) hx hb dX5_restore_1 (by decide) ?_
  refine lv_iconst (v := 1) hx hb dX5_restore_2 (by decide) ?_
  refine goI0 (va_runS (As := [.int (nI k), .int 0, .int 1]) (rest := []) ⟨hx, hb, hml, hown, hts⟩ (CtI.use (c_X5_in l G ca (nI k) 0 1) H.size) (va_cwS 3 hts gX5_restore_X5_in rfl rfl rfl (by decide +kernel) ⟨Nat.le_of_ble_eq_true rfl, Nat.le_of_ble_eq_true rfl⟩) (pcW_S hev P_nil (D_nil (A := A))) rfl rfl hl.1 rfl (lv_room (Nat.le_of_ble_eq_true rfl)) dX5_restore_3 ⟨Nat.zero_le _, Nat.zero_le _⟩) hP hS hA (fun H locs hP hS => ?_)
  refine lv_eqi (y := 1) (by exact inC_k hk2) ?_
  refine lv_if_ne (tgt := 12) hx hb dX5_restore_6 (by decide) (fun c_1 => ?_) (fun c_1 => ?_)
  · skip
    refine lv_aload_n hx hb dX5_restore_12 rfl (lv_at hl 0 rfl) ?_
    refine va_get (D := G) (ci := 5) (v := .ref (a 3)) (C := RX5) (T := TX5) (N := 10) hx hb hts in_wsX50 hown hev.1 hP 0 rfl rfl 4 (by decide) (hts (.fieldLink RX5 19 "PuddleMinistriesModel" "isSaved" "[Z") (List.mem_of_getElem? (i := 1) rfl)) (fun _ h9 => h9) rfl dX5_restore_13 ?_
    refine lv_iload_n hx hb dX5_restore_16 rfl (lv_at hl 1 rfl) ?_
    refine b_zald hx hb hev.1 hP 4 rfl rfl (j := k) (by omega) (by decide) dX5_restore_17 ?_
    refine lv_if_ne (tgt := 24) hx hb dX5_restore_18 (by decide) (fun c_2 => ?_) (fun c_2 => ?_)
    · skip
      exact absurd hu c_2
    · skip
      refine lv_bipush (v := (-5)) hx hb dX5_restore_21 (by decide) ?_
      exact hret _ _ _ _ hP hS dX5_restore_23
  · skip
    exact absurd c_1 (by decide)
set_option maxHeartbeats 4000000 in
set_option maxRecDepth 100000 in
theorem c_X5_restore_ok (l : Launch) (G : va_G) (ca : Nat → ClassId) (h : Nat) (a : Nat → Nat) (M : MM) (k : Nat) (k6 : Nat) (n820 : Nat) (hst : m_states M = nI k6) (hk6 : k6 ≤ 6) (h820 : n820 = 820) (hk2 : k < 2) (hu : ¬ m_isSaved M k = 0) : CtI l yX5_restore wsX5_restore ({ frames := 2, cells := 0, slots := 0, locals := 45 }) [.ref h, .int (nI k)] G ca (moT ca h a M) (moT ca h a (cpA (m_slots M) (164 * k) (m_z M) 0 164, recP (m_past M) (m_z M) k6 n820, nI (recN k6), m_slots M, m_isSaved M, m_pad M, m_typed M, m_spot M, m_told M, m_toldMany M)) (cpA (m_slots M) (164 * k) (m_z M) 0 164 4) := by
  refine CtI.ofW (cc := cX5_restore) (maxL := 2) (rt := .int) (by decide) rfl (Nat.le_of_ble_eq_true rfl) rfl ?_
  intro pr en s m be me c A ls Q H hx hb hml hts hown hev hP hD hA hS hl hret
  have hown : s.vm.findClass RX5 = some m.cls := hown
  have hl : lv_has ls 2 [(0, .ref h), (1, .int (nI k))] := hl
  have in_wsX50 : ∀ w ∈ wsX50, w ∈ wsX5_restore := fun _ h => List.mem_cons_of_mem _ (List.mem_append_right _ h)
  refine lv_iload_n hx hb dX5_restore_0 rfl (lv_at hl 1 rfl) ?_
  refine lv_iconst (v := 0) hx hb dX5_restore_1 (by decide) ?_
  refine lv_iconst (v := 1) hx hb dX5_restore_2 (by decide) ?_
  refine goI0 (va_runS (As := [.int (nI k), .int 0, .int 1]) (rest := []) ⟨hx, hb, hml, hown, hts⟩ (CtI.use (c_X5_in l G ca (nI k) 0 1) H.size) (va_cwS 3 hts gX5_restore_X5_in rfl rfl rfl (by decide +kernel) ⟨Nat.le_of_ble_eq_true rfl, Nat.le_of_ble_eq_true rfl⟩) (pcW_S hev P_nil (D_nil (A := A))) rfl rfl hl.1 rfl (lv_room (Nat.le_of_ble_eq_true rfl)) dX5_restore_3 ⟨Nat.zero_le _, Nat.zero_le _⟩) hP hS hA (fun H locs hP hS => ?_)
  refine lv_eqi (y := 1) (by exact inC_k hk2) ?_
  refine lv_if_ne (tgt := 12) hx hb dX5_restore_6 (by decide) (fun c_1 => ?_) (fun c_1 => ?_)
  · skip
    refine lv_aload_n hx hb dX5_restore_12 rfl (lv_at hl 0 rfl) ?_
    refine va_get (D := G) (ci := 5) (v := .ref (a 3)) (C := RX5) (T := TX5) (N := 10) hx hb hts in_wsX50 hown hev.1 hP 0 rfl rfl 4 (by decide) (hts (.fieldLink RX5 19 "PuddleMinistriesModel" "isSaved" "[Z") (List.mem_of_getElem? (i := 1) rfl)) (fun _ h9 => h9) rfl dX5_restore_13 ?_
    refine lv_iload_n hx hb dX5_restore_16 rfl (lv_at hl 1 rfl) ?_
    refine b_zald hx hb hev.1 hP 4 rfl rfl (j := k) (by omega) (by decide) dX5_restore_17 ?_
    refine lv_if_ne (tgt := 24) hx hb dX5_restore_18 (by decide) (fun c_2 => ?_) (fun c_2 => ?_)
    · skip
      refine lv_aload_n hx hb dX5_restore_24 rfl (lv_at hl 0 rfl) ?_
      refine goVw (va_runV (As := []) (rest := []) ⟨hx, hb, hml, hown, hts⟩ (CtV.use (c_X5_record l G ca h a M k6 n820 hst hk6 h820) H.size) (cwV 0 hts gX5_restore_X5_record rfl rfl rfl (by decide +kernel) ⟨Nat.le_of_ble_eq_true rfl, Nat.le_of_ble_eq_true rfl⟩) (pcW_V hev hP hD (q0 := 0) rfl rfl rfl) rfl rfl hl.1 rfl (lv_room (Nat.le_of_ble_eq_true rfl)) dX5_restore_25 ⟨Nat.zero_le _, Nat.zero_le _⟩) hD hS hA moF (fun H locs hP hD hS => ?_)
      refine lv_aload_n hx hb dX5_restore_28 rfl (lv_at hl 0 rfl) ?_
      refine va_get (D := G) (ci := 5) (v := .ref (a 2)) (C := RX5) (T := TX5) (N := 10) hx hb hts in_wsX50 hown hev.1 hP 0 rfl rfl 3 (by decide) (hts (.fieldLink RX5 16 "PuddleMinistriesModel" "slots" "[I") (List.mem_of_getElem? (i := 2) rfl)) (fun _ h9 => h9) rfl dX5_restore_29 ?_
      refine lv_sipush (v := nI 164) hx hb dX5_restore_32 (by decide) ?_
      refine lv_iload_n hx hb dX5_restore_35 rfl (lv_at hl 1 rfl) ?_
      refine lv_imul hx hb dX5_restore_36 ?_
      refine lv_eqi (pk_mul _ _) ?_
      refine lv_aload_n hx hb dX5_restore_37 rfl (lv_at hl 0 rfl) ?_
      refine va_get (D := G) (ci := 5) (v := .ref (a 0)) (C := RX5) (T := TX5) (N := 10) hx hb hts in_wsX50 hown hev.1 hP 0 rfl rfl 0 (by decide) (hts (.fieldLink RX5 7 "PuddleMinistriesModel" "z" "[I") (List.mem_of_getElem? (i := 3) rfl)) (fun _ h9 => h9) rfl dX5_restore_38 ?_
      refine lv_iconst (v := nI 0) hx hb dX5_restore_41 (by decide) ?_
      refine goVw (va_runS (As := [.ref (a 2), .int (nI (164 * k)), .ref (a 0), .int (nI 0)]) (rest := []) ⟨hx, hb, hml, hown, hts⟩ (CtV.use (c_X5_copyState l G ca (moT ca h a (m_z M, recP ((m_past M)) ((m_z M)) k6 n820, nI (recN k6), m_slots M, m_isSaved M, m_pad M, m_typed M, m_spot M, m_told M, m_toldMany M)) 3 1 (a 2) (a 0) 328 164 (m_slots M) (m_z M) (164 * k) 0 rfl rfl (by decide) (by decide) (by decide) (by omega) (by omega)) H.size) (va_cwS 4 hts gX5_restore_X5_copyState rfl rfl rfl (by decide +kernel) ⟨Nat.le_of_ble_eq_true rfl, Nat.le_of_ble_eq_true rfl⟩) (pcW_S hev hP hD) rfl rfl hl.1 rfl (lv_room (Nat.le_of_ble_eq_true rfl)) dX5_restore_42 ⟨Nat.zero_le _, Nat.zero_le _⟩) hD hS hA rfl (fun H locs hP hD hS => ?_)
      have hP : va_P G vwCl (moT ca h a (cpA (m_slots M) (164 * k) (m_z M) 0 164, recP ((m_past M)) ((m_z M)) k6 n820, nI (recN k6), m_slots M, m_isSaved M, m_pad M, m_typed M, m_spot M, m_told M, m_toldMany M)) H := hP
      have hD : va_D A (moT ca h a (cpA (m_slots M) (164 * k) (m_z M) 0 164, recP ((m_past M)) ((m_z M)) k6 n820, nI (recN k6), m_slots M, m_isSaved M, m_pad M, m_typed M, m_spot M, m_told M, m_toldMany M)) := hD
      refine lv_aload_n hx hb dX5_restore_45 rfl (lv_at hl 0 rfl) ?_
      refine va_get (D := G) (ci := 5) (v := .ref (a 0)) (C := RX5) (T := TX5) (N := 10) hx hb hts in_wsX50 hown hev.1 hP 0 rfl rfl 0 (by decide) (hts (.fieldLink RX5 7 "PuddleMinistriesModel" "z" "[I") (List.mem_of_getElem? (i := 3) rfl)) (fun _ h9 => h9) rfl dX5_restore_46 ?_
      refine lv_iconst (v := nI 4) hx hb dX5_restore_49 (by decide) ?_
      refine b_iald hx hb hev.1 hP 1 rfl rfl (j := 4) (by omega) (by decide) dX5_restore_50 ?_
      refine lv_eqi (y := cpA (m_slots M) (164 * k) (m_z M) 0 164 4) rfl ?_
      exact hret _ _ _ _ hP hS dX5_restore_51
    · skip
      exact absurd c_2 hu
  · skip
    exact absurd c_1 (by decide)
set_option maxHeartbeats 4000000 in
set_option maxRecDepth 100000 in
theorem c_X5_set_out (l : Launch) (G : va_G) (ca : Nat → ClassId) (h : Nat) (a : Nat → Nat) (M : MM) (x : Int32) (v : Int32) (hs : x.toInt < 0 ∨ 3 < x.toInt) : CtI l yX5_set wsX5_set ({ frames := 1, cells := 0, slots := 0, locals := 21 }) [.ref h, .int x, .int v] G ca (moT ca h a M) (moT ca h a M) (-2) := by
  refine CtI.ofW (cc := cX5_set) (maxL := 4) (rt := .int) (by decide) rfl (Nat.le_of_ble_eq_true rfl) rfl ?_
  intro pr en s m be me c A ls Q H hx hb hml hts hown hev hP hD hA hS hl hret
  have hown : s.vm.findClass RX5 = some m.cls := hown
  have hl : lv_has ls 4 [(0, .ref h), (1, .int x), (2, .int v)] := hl
  have in_wsX50 : ∀ w ∈ wsX50, w ∈ wsX5_set := fun _ h => List.mem_cons_of_mem _ (List.mem_append_right _ h)
  refine lv_iload_n hx hb dX5_set_0 rfl (lv_at hl 1 rfl) ?_
  refine lv_iload_n hx hb dX5_set_1 rfl (lv_at hl 2 rfl) ?_
  refine goI0 (va_runS (As := [.int x, .int v]) (rest := []) ⟨hx, hb, hml, hown, hts⟩ (CtI.use (c_X5_isValue_out l G ca x v hs) H.size) (va_cwS 2 hts gX5_set_X5_isValue rfl rfl rfl (by decide +kernel) ⟨Nat.le_of_ble_eq_true rfl, Nat.le_of_ble_eq_true rfl⟩) (pcW_S hev P_nil (D_nil (A := A))) rfl rfl hl.1 rfl (lv_room (Nat.le_of_ble_eq_true rfl)) dX5_set_2 ⟨Nat.zero_le _, Nat.zero_le _⟩) hP hS hA (fun H locs hP hS => ?_)
  refine lv_if_ne (tgt := 11) hx hb dX5_set_5 (by decide) (fun c_1 => ?_) (fun c_1 => ?_)
  · skip
    exact absurd (by decide) c_1
  · skip
    refine lv_bipush (v := (-2)) hx hb dX5_set_8 (by decide) ?_
    exact hret _ _ _ _ hP hS dX5_set_10
set_option maxHeartbeats 4000000 in
set_option maxRecDepth 100000 in
theorem c_X5_set_bad0 (l : Launch) (G : va_G) (ca : Nat → ClassId) (h : Nat) (a : Nat → Nat) (M : MM) (v : Int32) (hv : v < 0 ∨ ¬ v ≤ 20) : CtI l yX5_set wsX5_set ({ frames := 2, cells := 0, slots := 0, locals := 43 }) [.ref h, .int (nI 0), .int v] G ca (moT ca h a M) (moT ca h a M) (-2) := by
  refine CtI.ofW (cc := cX5_set) (maxL := 4) (rt := .int) (by decide) rfl (Nat.le_of_ble_eq_true rfl) rfl ?_
  intro pr en s m be me c A ls Q H hx hb hml hts hown hev hP hD hA hS hl hret
  have hown : s.vm.findClass RX5 = some m.cls := hown
  have hl : lv_has ls 4 [(0, .ref h), (1, .int (nI 0)), (2, .int v)] := hl
  have in_wsX50 : ∀ w ∈ wsX50, w ∈ wsX5_set := fun _ h => List.mem_cons_of_mem _ (List.mem_append_right _ h)
  refine lv_iload_n hx hb dX5_set_0 rfl (lv_at hl 1 rfl) ?_
  refine lv_iload_n hx hb dX5_set_1 rfl (lv_at hl 2 rfl) ?_
  refine goI0 (va_runS (As := [.int (nI 0), .int v]) (rest := []) ⟨hx, hb, hml, hown, hts⟩ (CtI.use (c_X5_isValue_0 l G ca v) H.size) (va_cwS 2 hts gX5_set_X5_isValue rfl rfl rfl (by decide +kernel) ⟨Nat.le_of_ble_eq_true rfl, Nat.le_of_ble_eq_true rfl⟩) (pcW_S hev P_nil (D_nil (A := A))) rfl rfl hl.1 rfl (lv_room (Nat.le_of_ble_eq_true rfl)) dX5_set_2 ⟨Nat.zero_le _, Nat.zero_le _⟩) hP hS hA (fun H locs hP hS => ?_)
  refine lv_eqi (y := 0) (by exact inC_0 hv) ?_
  refine lv_if_ne (tgt := 11) hx hb dX5_set_5 (by decide) (fun c_1 => ?_) (fun c_1 => ?_)
  · skip
    exact absurd (by decide) c_1
  · skip
    refine lv_bipush (v := (-2)) hx hb dX5_set_8 (by decide) ?_
    exact hret _ _ _ _ hP hS dX5_set_10
set_option maxHeartbeats 4000000 in
set_option maxRecDepth 100000 in
theorem c_X5_set_ok0 (l : Launch) (G : va_G) (ca : Nat → ClassId) (h : Nat) (a : Nat → Nat) (M : MM) (v : Int32) (k6 : Nat) (n820 : Nat) (hst : m_states M = nI k6) (hk6 : k6 ≤ 6) (h820 : n820 = 820) (hv1 : ¬ v < 0) (hv2 : v ≤ 20) : CtI l yX5_set wsX5_set ({ frames := 2, cells := 0, slots := 0, locals := 45 }) [.ref h, .int (nI 0), .int v] G ca (moT ca h a M) (moT ca h a (upd (m_z M) 0 v, recP (m_past M) (m_z M) k6 n820, nI (recN k6), m_slots M, m_isSaved M, m_pad M, m_typed M, m_spot M, m_told M, m_toldMany M)) (m_z M 0) := by
  refine CtI.ofW (cc := cX5_set) (maxL := 4) (rt := .int) (by decide) rfl (Nat.le_of_ble_eq_true rfl) rfl ?_
  intro pr en s m be me c A ls Q H hx hb hml hts hown hev hP hD hA hS hl hret
  have hown : s.vm.findClass RX5 = some m.cls := hown
  have hl : lv_has ls 4 [(0, .ref h), (1, .int (nI 0)), (2, .int v)] := hl
  have in_wsX50 : ∀ w ∈ wsX50, w ∈ wsX5_set := fun _ h => List.mem_cons_of_mem _ (List.mem_append_right _ h)
  refine lv_iload_n hx hb dX5_set_0 rfl (lv_at hl 1 rfl) ?_
  refine lv_iload_n hx hb dX5_set_1 rfl (lv_at hl 2 rfl) ?_
  refine goI0 (va_runS (As := [.int (nI 0), .int v]) (rest := []) ⟨hx, hb, hml, hown, hts⟩ (CtI.use (c_X5_isValue_0 l G ca v) H.size) (va_cwS 2 hts gX5_set_X5_isValue rfl rfl rfl (by decide +kernel) ⟨Nat.le_of_ble_eq_true rfl, Nat.le_of_ble_eq_true rfl⟩) (pcW_S hev P_nil (D_nil (A := A))) rfl rfl hl.1 rfl (lv_room (Nat.le_of_ble_eq_true rfl)) dX5_set_2 ⟨Nat.zero_le _, Nat.zero_le _⟩) hP hS hA (fun H locs hP hS => ?_)
  refine lv_eqi (y := 1) (by exact inC_1 hv1 hv2) ?_
  refine lv_if_ne (tgt := 11) hx hb dX5_set_5 (by decide) (fun c_1 => ?_) (fun c_1 => ?_)
  · skip
    refine lv_aload_n hx hb dX5_set_11 rfl (lv_at hl 0 rfl) ?_
    refine goVw (va_runV (As := []) (rest := []) ⟨hx, hb, hml, hown, hts⟩ (CtV.use (c_X5_record l G ca h a M k6 n820 hst hk6 h820) H.size) (cwV 0 hts gX5_set_X5_record rfl rfl rfl (by decide +kernel) ⟨Nat.le_of_ble_eq_true rfl, Nat.le_of_ble_eq_true rfl⟩) (pcW_V hev hP hD (q0 := 0) rfl rfl rfl) rfl rfl hl.1 rfl (lv_room (Nat.le_of_ble_eq_true rfl)) dX5_set_12 ⟨Nat.zero_le _, Nat.zero_le _⟩) hD hS hA moF (fun H locs hP hD hS => ?_)
    refine lv_aload_n hx hb dX5_set_15 rfl (lv_at hl 0 rfl) ?_
    refine va_get (D := G) (ci := 5) (v := .ref (a 0)) (C := RX5) (T := TX5) (N := 10) hx hb hts in_wsX50 hown hev.1 hP 0 rfl rfl 0 (by decide) (hts (.fieldLink RX5 7 "PuddleMinistriesModel" "z" "[I") (List.mem_of_getElem? (i := 1) rfl)) (fun _ h9 => h9) rfl dX5_set_16 ?_
    refine lv_iload_n hx hb dX5_set_19 rfl (lv_at hl 1 rfl) ?_
    refine b_iald hx hb hev.1 hP 1 rfl rfl (j := 0) (by omega) (by decide) dX5_set_20 ?_
    refine lv_istore_n (lv' := [(3, .int ((m_z M) 0)), (0, .ref h), (1, .int (nI 0)), (2, .int v)]) hx hb dX5_set_21 rfl hl (by decide) rfl (fun ls hl => ?_)
    refine lv_aload_n hx hb dX5_set_22 rfl (lv_at hl 1 rfl) ?_
    refine va_get (D := G) (ci := 5) (v := .ref (a 0)) (C := RX5) (T := TX5) (N := 10) hx hb hts in_wsX50 hown hev.1 hP 0 rfl rfl 0 (by decide) (hts (.fieldLink RX5 7 "PuddleMinistriesModel" "z" "[I") (List.mem_of_getElem? (i := 1) rfl)) (fun _ h9 => h9) rfl dX5_set_23 ?_
    refine lv_iload_n hx hb dX5_set_26 rfl (lv_at hl 2 rfl) ?_
    refine lv_iload_n hx hb dX5_set_27 rfl (lv_at hl 3 rfl) ?_
    refine b_iast hx hb hev.1 hP hD hS 1 rfl rfl (j := 0) (by omega) (by decide) dX5_set_28 (fun H locs hP hD hS => ?_)
    have hP : va_P G vwCl (moT ca h a (upd (m_z M) 0 v, recP ((m_past M)) ((m_z M)) k6 n820, nI (recN k6), m_slots M, m_isSaved M, m_pad M, m_typed M, m_spot M, m_told M, m_toldMany M)) H := hP
    have hD : va_D A (moT ca h a (upd (m_z M) 0 v, recP ((m_past M)) ((m_z M)) k6 n820, nI (recN k6), m_slots M, m_isSaved M, m_pad M, m_typed M, m_spot M, m_told M, m_toldMany M)) := hD
    refine lv_iload_n hx hb dX5_set_29 rfl (lv_at hl 0 rfl) ?_
    refine lv_eqi (y := m_z M 0) rfl ?_
    exact hret _ _ _ _ hP hS dX5_set_30
  · skip
    exact absurd c_1 (by decide)
set_option maxHeartbeats 4000000 in
set_option maxRecDepth 100000 in
theorem c_X5_set_bad1 (l : Launch) (G : va_G) (ca : Nat → ClassId) (h : Nat) (a : Nat → Nat) (M : MM) (v : Int32) (hv : v < 0 ∨ ¬ v ≤ 20) : CtI l yX5_set wsX5_set ({ frames := 2, cells := 0, slots := 0, locals := 43 }) [.ref h, .int (nI 1), .int v] G ca (moT ca h a M) (moT ca h a M) (-2) := by
  refine CtI.ofW (cc := cX5_set) (maxL := 4) (rt := .int) (by decide) rfl (Nat.le_of_ble_eq_true rfl) rfl ?_
  intro pr en s m be me c A ls Q H hx hb hml hts hown hev hP hD hA hS hl hret
  have hown : s.vm.findClass RX5 = some m.cls := hown
  have hl : lv_has ls 4 [(0, .ref h), (1, .int (nI 1)), (2, .int v)] := hl
  have in_wsX50 : ∀ w ∈ wsX50, w ∈ wsX5_set := fun _ h => List.mem_cons_of_mem _ (List.mem_append_right _ h)
  refine lv_iload_n hx hb dX5_set_0 rfl (lv_at hl 1 rfl) ?_
  refine lv_iload_n hx hb dX5_set_1 rfl (lv_at hl 2 rfl) ?_
  refine goI0 (va_runS (As := [.int (nI 1), .int v]) (rest := []) ⟨hx, hb, hml, hown, hts⟩ (CtI.use (c_X5_isValue_1 l G ca v) H.size) (va_cwS 2 hts gX5_set_X5_isValue rfl rfl rfl (by decide +kernel) ⟨Nat.le_of_ble_eq_true rfl, Nat.le_of_ble_eq_true rfl⟩) (pcW_S hev P_nil (D_nil (A := A))) rfl rfl hl.1 rfl (lv_room (Nat.le_of_ble_eq_true rfl)) dX5_set_2 ⟨Nat.zero_le _, Nat.zero_le _⟩) hP hS hA (fun H locs hP hS => ?_)
  refine lv_eqi (y := 0) (by exact inC_0 hv) ?_
  refine lv_if_ne (tgt := 11) hx hb dX5_set_5 (by decide) (fun c_1 => ?_) (fun c_1 => ?_)
  · skip
    exact absurd (by decide) c_1
  · skip
    refine lv_bipush (v := (-2)) hx hb dX5_set_8 (by decide) ?_
    exact hret _ _ _ _ hP hS dX5_set_10
set_option maxHeartbeats 4000000 in
set_option maxRecDepth 100000 in
theorem c_X5_set_ok1 (l : Launch) (G : va_G) (ca : Nat → ClassId) (h : Nat) (a : Nat → Nat) (M : MM) (v : Int32) (k6 : Nat) (n820 : Nat) (hst : m_states M = nI k6) (hk6 : k6 ≤ 6) (h820 : n820 = 820) (hv1 : ¬ v < 0) (hv2 : v ≤ 20) : CtI l yX5_set wsX5_set ({ frames := 2, cells := 0, slots := 0, locals := 45 }) [.ref h, .int (nI 1), .int v] G ca (moT ca h a M) (moT ca h a (upd (m_z M) 1 v, recP (m_past M) (m_z M) k6 n820, nI (recN k6), m_slots M, m_isSaved M, m_pad M, m_typed M, m_spot M, m_told M, m_toldMany M)) (m_z M 1) := by
  refine CtI.ofW (cc := cX5_set) (maxL := 4) (rt := .int) (by decide) rfl (Nat.le_of_ble_eq_true rfl) rfl ?_
  intro pr en s m be me c A ls Q H hx hb hml hts hown hev hP hD hA hS hl hret
  have hown : s.vm.findClass RX5 = some m.cls := hown
  have hl : lv_has ls 4 [(0, .ref h), (1, .int (nI 1)), (2, .int v)] := hl
  have in_wsX50 : ∀ w ∈ wsX50, w ∈ wsX5_set := fun _ h => List.mem_cons_of_mem _ (List.mem_append_right _ h)
  refine lv_iload_n hx hb dX5_set_0 rfl (lv_at hl 1 rfl) ?_
  refine lv_iload_n hx hb dX5_set_1 rfl (lv_at hl 2 rfl) ?_
  refine goI0 (va_runS (As := [.int (nI 1), .int v]) (rest := []) ⟨hx, hb, hml, hown, hts⟩ (CtI.use (c_X5_isValue_1 l G ca v) H.size) (va_cwS 2 hts gX5_set_X5_isValue rfl rfl rfl (by decide +kernel) ⟨Nat.le_of_ble_eq_true rfl, Nat.le_of_ble_eq_true rfl⟩) (pcW_S hev P_nil (D_nil (A := A))) rfl rfl hl.1 rfl (lv_room (Nat.le_of_ble_eq_true rfl)) dX5_set_2 ⟨Nat.zero_le _, Nat.zero_le _⟩) hP hS hA (fun H locs hP hS => ?_)
  refine lv_eqi (y := 1) (by exact inC_1 hv1 hv2) ?_
  refine lv_if_ne (tgt := 11) hx hb dX5_set_5 (by decide) (fun c_1 => ?_) (fun c_1 => ?_)
  · skip
    refine lv_aload_n hx hb dX5_set_11 rfl (lv_at hl 0 rfl) ?_
    refine goVw (va_runV (As := []) (rest := []) ⟨hx, hb, hml, hown, hts⟩ (CtV.use (c_X5_record l G ca h a M k6 n820 hst hk6 h820) H.size) (cwV 0 hts gX5_set_X5_record rfl rfl rfl (by decide +kernel) ⟨Nat.le_of_ble_eq_true rfl, Nat.le_of_ble_eq_true rfl⟩) (pcW_V hev hP hD (q0 := 0) rfl rfl rfl) rfl rfl hl.1 rfl (lv_room (Nat.le_of_ble_eq_true rfl)) dX5_set_12 ⟨Nat.zero_le _, Nat.zero_le _⟩) hD hS hA moF (fun H locs hP hD hS => ?_)
    refine lv_aload_n hx hb dX5_set_15 rfl (lv_at hl 0 rfl) ?_
    refine va_get (D := G) (ci := 5) (v := .ref (a 0)) (C := RX5) (T := TX5) (N := 10) hx hb hts in_wsX50 hown hev.1 hP 0 rfl rfl 0 (by decide) (hts (.fieldLink RX5 7 "PuddleMinistriesModel" "z" "[I") (List.mem_of_getElem? (i := 1) rfl)) (fun _ h9 => h9) rfl dX5_set_16 ?_
    refine lv_iload_n hx hb dX5_set_19 rfl (lv_at hl 1 rfl) ?_
    refine b_iald hx hb hev.1 hP 1 rfl rfl (j := 1) (by omega) (by decide) dX5_set_20 ?_
    refine lv_istore_n (lv' := [(3, .int ((m_z M) 1)), (0, .ref h), (1, .int (nI 1)), (2, .int v)]) hx hb dX5_set_21 rfl hl (by decide) rfl (fun ls hl => ?_)
    refine lv_aload_n hx hb dX5_set_22 rfl (lv_at hl 1 rfl) ?_
    refine va_get (D := G) (ci := 5) (v := .ref (a 0)) (C := RX5) (T := TX5) (N := 10) hx hb hts in_wsX50 hown hev.1 hP 0 rfl rfl 0 (by decide) (hts (.fieldLink RX5 7 "PuddleMinistriesModel" "z" "[I") (List.mem_of_getElem? (i := 1) rfl)) (fun _ h9 => h9) rfl dX5_set_23 ?_
    refine lv_iload_n hx hb dX5_set_26 rfl (lv_at hl 2 rfl) ?_
    refine lv_iload_n hx hb dX5_set_27 rfl (lv_at hl 3 rfl) ?_
    refine b_iast hx hb hev.1 hP hD hS 1 rfl rfl (j := 1) (by omega) (by decide) dX5_set_28 (fun H locs hP hD hS => ?_)
    have hP : va_P G vwCl (moT ca h a (upd (m_z M) 1 v, recP ((m_past M)) ((m_z M)) k6 n820, nI (recN k6), m_slots M, m_isSaved M, m_pad M, m_typed M, m_spot M, m_told M, m_toldMany M)) H := hP
    have hD : va_D A (moT ca h a (upd (m_z M) 1 v, recP ((m_past M)) ((m_z M)) k6 n820, nI (recN k6), m_slots M, m_isSaved M, m_pad M, m_typed M, m_spot M, m_told M, m_toldMany M)) := hD
    refine lv_iload_n hx hb dX5_set_29 rfl (lv_at hl 0 rfl) ?_
    refine lv_eqi (y := m_z M 1) rfl ?_
    exact hret _ _ _ _ hP hS dX5_set_30
  · skip
    exact absurd c_1 (by decide)
set_option maxHeartbeats 4000000 in
set_option maxRecDepth 100000 in
theorem c_X5_set_bad2 (l : Launch) (G : va_G) (ca : Nat → ClassId) (h : Nat) (a : Nat → Nat) (M : MM) (v : Int32) (hv : v < 1 ∨ ¬ v ≤ 99) : CtI l yX5_set wsX5_set ({ frames := 2, cells := 0, slots := 0, locals := 43 }) [.ref h, .int (nI 2), .int v] G ca (moT ca h a M) (moT ca h a M) (-2) := by
  refine CtI.ofW (cc := cX5_set) (maxL := 4) (rt := .int) (by decide) rfl (Nat.le_of_ble_eq_true rfl) rfl ?_
  intro pr en s m be me c A ls Q H hx hb hml hts hown hev hP hD hA hS hl hret
  have hown : s.vm.findClass RX5 = some m.cls := hown
  have hl : lv_has ls 4 [(0, .ref h), (1, .int (nI 2)), (2, .int v)] := hl
  have in_wsX50 : ∀ w ∈ wsX50, w ∈ wsX5_set := fun _ h => List.mem_cons_of_mem _ (List.mem_append_right _ h)
  refine lv_iload_n hx hb dX5_set_0 rfl (lv_at hl 1 rfl) ?_
  refine lv_iload_n hx hb dX5_set_1 rfl (lv_at hl 2 rfl) ?_
  refine goI0 (va_runS (As := [.int (nI 2), .int v]) (rest := []) ⟨hx, hb, hml, hown, hts⟩ (CtI.use (c_X5_isValue_2 l G ca v) H.size) (va_cwS 2 hts gX5_set_X5_isValue rfl rfl rfl (by decide +kernel) ⟨Nat.le_of_ble_eq_true rfl, Nat.le_of_ble_eq_true rfl⟩) (pcW_S hev P_nil (D_nil (A := A))) rfl rfl hl.1 rfl (lv_room (Nat.le_of_ble_eq_true rfl)) dX5_set_2 ⟨Nat.zero_le _, Nat.zero_le _⟩) hP hS hA (fun H locs hP hS => ?_)
  refine lv_eqi (y := 0) (by exact inC_0 hv) ?_
  refine lv_if_ne (tgt := 11) hx hb dX5_set_5 (by decide) (fun c_1 => ?_) (fun c_1 => ?_)
  · skip
    exact absurd (by decide) c_1
  · skip
    refine lv_bipush (v := (-2)) hx hb dX5_set_8 (by decide) ?_
    exact hret _ _ _ _ hP hS dX5_set_10
set_option maxHeartbeats 4000000 in
set_option maxRecDepth 100000 in
theorem c_X5_set_ok2 (l : Launch) (G : va_G) (ca : Nat → ClassId) (h : Nat) (a : Nat → Nat) (M : MM) (v : Int32) (k6 : Nat) (n820 : Nat) (hst : m_states M = nI k6) (hk6 : k6 ≤ 6) (h820 : n820 = 820) (hv1 : ¬ v < 1) (hv2 : v ≤ 99) : CtI l yX5_set wsX5_set ({ frames := 2, cells := 0, slots := 0, locals := 45 }) [.ref h, .int (nI 2), .int v] G ca (moT ca h a M) (moT ca h a (upd (m_z M) 2 v, recP (m_past M) (m_z M) k6 n820, nI (recN k6), m_slots M, m_isSaved M, m_pad M, m_typed M, m_spot M, m_told M, m_toldMany M)) (m_z M 2) := by
  refine CtI.ofW (cc := cX5_set) (maxL := 4) (rt := .int) (by decide) rfl (Nat.le_of_ble_eq_true rfl) rfl ?_
  intro pr en s m be me c A ls Q H hx hb hml hts hown hev hP hD hA hS hl hret
  have hown : s.vm.findClass RX5 = some m.cls := hown
  have hl : lv_has ls 4 [(0, .ref h), (1, .int (nI 2)), (2, .int v)] := hl
  have in_wsX50 : ∀ w ∈ wsX50, w ∈ wsX5_set := fun _ h => List.mem_cons_of_mem _ (List.mem_append_right _ h)
  refine lv_iload_n hx hb dX5_set_0 rfl (lv_at hl 1 rfl) ?_
  refine lv_iload_n hx hb dX5_set_1 rfl (lv_at hl 2 rfl) ?_
  refine goI0 (va_runS (As := [.int (nI 2), .int v]) (rest := []) ⟨hx, hb, hml, hown, hts⟩ (CtI.use (c_X5_isValue_2 l G ca v) H.size) (va_cwS 2 hts gX5_set_X5_isValue rfl rfl rfl (by decide +kernel) ⟨Nat.le_of_ble_eq_true rfl, Nat.le_of_ble_eq_true rfl⟩) (pcW_S hev P_nil (D_nil (A := A))) rfl rfl hl.1 rfl (lv_room (Nat.le_of_ble_eq_true rfl)) dX5_set_2 ⟨Nat.zero_le _, Nat.zero_le _⟩) hP hS hA (fun H locs hP hS => ?_)
  refine lv_eqi (y := 1) (by exact inC_1 hv1 hv2) ?_
  refine lv_if_ne (tgt := 11) hx hb dX5_set_5 (by decide) (fun c_1 => ?_) (fun c_1 => ?_)
  · skip
    refine lv_aload_n hx hb dX5_set_11 rfl (lv_at hl 0 rfl) ?_
    refine goVw (va_runV (As := []) (rest := []) ⟨hx, hb, hml, hown, hts⟩ (CtV.use (c_X5_record l G ca h a M k6 n820 hst hk6 h820) H.size) (cwV 0 hts gX5_set_X5_record rfl rfl rfl (by decide +kernel) ⟨Nat.le_of_ble_eq_true rfl, Nat.le_of_ble_eq_true rfl⟩) (pcW_V hev hP hD (q0 := 0) rfl rfl rfl) rfl rfl hl.1 rfl (lv_room (Nat.le_of_ble_eq_true rfl)) dX5_set_12 ⟨Nat.zero_le _, Nat.zero_le _⟩) hD hS hA moF (fun H locs hP hD hS => ?_)
    refine lv_aload_n hx hb dX5_set_15 rfl (lv_at hl 0 rfl) ?_
    refine va_get (D := G) (ci := 5) (v := .ref (a 0)) (C := RX5) (T := TX5) (N := 10) hx hb hts in_wsX50 hown hev.1 hP 0 rfl rfl 0 (by decide) (hts (.fieldLink RX5 7 "PuddleMinistriesModel" "z" "[I") (List.mem_of_getElem? (i := 1) rfl)) (fun _ h9 => h9) rfl dX5_set_16 ?_
    refine lv_iload_n hx hb dX5_set_19 rfl (lv_at hl 1 rfl) ?_
    refine b_iald hx hb hev.1 hP 1 rfl rfl (j := 2) (by omega) (by decide) dX5_set_20 ?_
    refine lv_istore_n (lv' := [(3, .int ((m_z M) 2)), (0, .ref h), (1, .int (nI 2)), (2, .int v)]) hx hb dX5_set_21 rfl hl (by decide) rfl (fun ls hl => ?_)
    refine lv_aload_n hx hb dX5_set_22 rfl (lv_at hl 1 rfl) ?_
    refine va_get (D := G) (ci := 5) (v := .ref (a 0)) (C := RX5) (T := TX5) (N := 10) hx hb hts in_wsX50 hown hev.1 hP 0 rfl rfl 0 (by decide) (hts (.fieldLink RX5 7 "PuddleMinistriesModel" "z" "[I") (List.mem_of_getElem? (i := 1) rfl)) (fun _ h9 => h9) rfl dX5_set_23 ?_
    refine lv_iload_n hx hb dX5_set_26 rfl (lv_at hl 2 rfl) ?_
    refine lv_iload_n hx hb dX5_set_27 rfl (lv_at hl 3 rfl) ?_
    refine b_iast hx hb hev.1 hP hD hS 1 rfl rfl (j := 2) (by omega) (by decide) dX5_set_28 (fun H locs hP hD hS => ?_)
    have hP : va_P G vwCl (moT ca h a (upd (m_z M) 2 v, recP ((m_past M)) ((m_z M)) k6 n820, nI (recN k6), m_slots M, m_isSaved M, m_pad M, m_typed M, m_spot M, m_told M, m_toldMany M)) H := hP
    have hD : va_D A (moT ca h a (upd (m_z M) 2 v, recP ((m_past M)) ((m_z M)) k6 n820, nI (recN k6), m_slots M, m_isSaved M, m_pad M, m_typed M, m_spot M, m_told M, m_toldMany M)) := hD
    refine lv_iload_n hx hb dX5_set_29 rfl (lv_at hl 0 rfl) ?_
    refine lv_eqi (y := m_z M 2) rfl ?_
    exact hret _ _ _ _ hP hS dX5_set_30
  · skip
    exact absurd c_1 (by decide)
set_option maxHeartbeats 4000000 in
set_option maxRecDepth 100000 in
theorem c_X5_set_bad3 (l : Launch) (G : va_G) (ca : Nat → ClassId) (h : Nat) (a : Nat → Nat) (M : MM) (v : Int32) (hv : v < 1 ∨ ¬ v ≤ 30) : CtI l yX5_set wsX5_set ({ frames := 2, cells := 0, slots := 0, locals := 43 }) [.ref h, .int (nI 3), .int v] G ca (moT ca h a M) (moT ca h a M) (-2) := by
  refine CtI.ofW (cc := cX5_set) (maxL := 4) (rt := .int) (by decide) rfl (Nat.le_of_ble_eq_true rfl) rfl ?_
  intro pr en s m be me c A ls Q H hx hb hml hts hown hev hP hD hA hS hl hret
  have hown : s.vm.findClass RX5 = some m.cls := hown
  have hl : lv_has ls 4 [(0, .ref h), (1, .int (nI 3)), (2, .int v)] := hl
  have in_wsX50 : ∀ w ∈ wsX50, w ∈ wsX5_set := fun _ h => List.mem_cons_of_mem _ (List.mem_append_right _ h)
  refine lv_iload_n hx hb dX5_set_0 rfl (lv_at hl 1 rfl) ?_
  refine lv_iload_n hx hb dX5_set_1 rfl (lv_at hl 2 rfl) ?_
  refine goI0 (va_runS (As := [.int (nI 3), .int v]) (rest := []) ⟨hx, hb, hml, hown, hts⟩ (CtI.use (c_X5_isValue_3 l G ca v) H.size) (va_cwS 2 hts gX5_set_X5_isValue rfl rfl rfl (by decide +kernel) ⟨Nat.le_of_ble_eq_true rfl, Nat.le_of_ble_eq_true rfl⟩) (pcW_S hev P_nil (D_nil (A := A))) rfl rfl hl.1 rfl (lv_room (Nat.le_of_ble_eq_true rfl)) dX5_set_2 ⟨Nat.zero_le _, Nat.zero_le _⟩) hP hS hA (fun H locs hP hS => ?_)
  refine lv_eqi (y := 0) (by exact inC_0 hv) ?_
  refine lv_if_ne (tgt := 11) hx hb dX5_set_5 (by decide) (fun c_1 => ?_) (fun c_1 => ?_)
  · skip
    exact absurd (by decide) c_1
  · skip
    refine lv_bipush (v := (-2)) hx hb dX5_set_8 (by decide) ?_
    exact hret _ _ _ _ hP hS dX5_set_10
set_option maxHeartbeats 4000000 in
set_option maxRecDepth 100000 in
theorem c_X5_set_ok3 (l : Launch) (G : va_G) (ca : Nat → ClassId) (h : Nat) (a : Nat → Nat) (M : MM) (v : Int32) (k6 : Nat) (n820 : Nat) (hst : m_states M = nI k6) (hk6 : k6 ≤ 6) (h820 : n820 = 820) (hv1 : ¬ v < 1) (hv2 : v ≤ 30) : CtI l yX5_set wsX5_set ({ frames := 2, cells := 0, slots := 0, locals := 45 }) [.ref h, .int (nI 3), .int v] G ca (moT ca h a M) (moT ca h a (upd (m_z M) 3 v, recP (m_past M) (m_z M) k6 n820, nI (recN k6), m_slots M, m_isSaved M, m_pad M, m_typed M, m_spot M, m_told M, m_toldMany M)) (m_z M 3) := by
  refine CtI.ofW (cc := cX5_set) (maxL := 4) (rt := .int) (by decide) rfl (Nat.le_of_ble_eq_true rfl) rfl ?_
  intro pr en s m be me c A ls Q H hx hb hml hts hown hev hP hD hA hS hl hret
  have hown : s.vm.findClass RX5 = some m.cls := hown
  have hl : lv_has ls 4 [(0, .ref h), (1, .int (nI 3)), (2, .int v)] := hl
  have in_wsX50 : ∀ w ∈ wsX50, w ∈ wsX5_set := fun _ h => List.mem_cons_of_mem _ (List.mem_append_right _ h)
  refine lv_iload_n hx hb dX5_set_0 rfl (lv_at hl 1 rfl) ?_
  refine lv_iload_n hx hb dX5_set_1 rfl (lv_at hl 2 rfl) ?_
  refine goI0 (va_runS (As := [.int (nI 3), .int v]) (rest := []) ⟨hx, hb, hml, hown, hts⟩ (CtI.use (c_X5_isValue_3 l G ca v) H.size) (va_cwS 2 hts gX5_set_X5_isValue rfl rfl rfl (by decide +kernel) ⟨Nat.le_of_ble_eq_true rfl, Nat.le_of_ble_eq_true rfl⟩) (pcW_S hev P_nil (D_nil (A := A))) rfl rfl hl.1 rfl (lv_room (Nat.le_of_ble_eq_true rfl)) dX5_set_2 ⟨Nat.zero_le _, Nat.zero_le _⟩) hP hS hA (fun H locs hP hS => ?_)
  refine lv_eqi (y := 1) (by exact inC_1 hv1 hv2) ?_
  refine lv_if_ne (tgt := 11) hx hb dX5_set_5 (by decide) (fun c_1 => ?_) (fun c_1 => ?_)
  · skip
    refine lv_aload_n hx hb dX5_set_11 rfl (lv_at hl 0 rfl) ?_
    refine goVw (va_runV (As := []) (rest := []) ⟨hx, hb, hml, hown, hts⟩ (CtV.use (c_X5_record l G ca h a M k6 n820 hst hk6 h820) H.size) (cwV 0 hts gX5_set_X5_record rfl rfl rfl (by decide +kernel) ⟨Nat.le_of_ble_eq_true rfl, Nat.le_of_ble_eq_true rfl⟩) (pcW_V hev hP hD (q0 := 0) rfl rfl rfl) rfl rfl hl.1 rfl (lv_room (Nat.le_of_ble_eq_true rfl)) dX5_set_12 ⟨Nat.zero_le _, Nat.zero_le _⟩) hD hS hA moF (fun H locs hP hD hS => ?_)
    refine lv_aload_n hx hb dX5_set_15 rfl (lv_at hl 0 rfl) ?_
    refine va_get (D := G) (ci := 5) (v := .ref (a 0)) (C := RX5) (T := TX5) (N := 10) hx hb hts in_wsX50 hown hev.1 hP 0 rfl rfl 0 (by decide) (hts (.fieldLink RX5 7 "PuddleMinistriesModel" "z" "[I") (List.mem_of_getElem? (i := 1) rfl)) (fun _ h9 => h9) rfl dX5_set_16 ?_
    refine lv_iload_n hx hb dX5_set_19 rfl (lv_at hl 1 rfl) ?_
    refine b_iald hx hb hev.1 hP 1 rfl rfl (j := 3) (by omega) (by decide) dX5_set_20 ?_
    refine lv_istore_n (lv' := [(3, .int ((m_z M) 3)), (0, .ref h), (1, .int (nI 3)), (2, .int v)]) hx hb dX5_set_21 rfl hl (by decide) rfl (fun ls hl => ?_)
    refine lv_aload_n hx hb dX5_set_22 rfl (lv_at hl 1 rfl) ?_
    refine va_get (D := G) (ci := 5) (v := .ref (a 0)) (C := RX5) (T := TX5) (N := 10) hx hb hts in_wsX50 hown hev.1 hP 0 rfl rfl 0 (by decide) (hts (.fieldLink RX5 7 "PuddleMinistriesModel" "z" "[I") (List.mem_of_getElem? (i := 1) rfl)) (fun _ h9 => h9) rfl dX5_set_23 ?_
    refine lv_iload_n hx hb dX5_set_26 rfl (lv_at hl 2 rfl) ?_
    refine lv_iload_n hx hb dX5_set_27 rfl (lv_at hl 3 rfl) ?_
    refine b_iast hx hb hev.1 hP hD hS 1 rfl rfl (j := 3) (by omega) (by decide) dX5_set_28 (fun H locs hP hD hS => ?_)
    have hP : va_P G vwCl (moT ca h a (upd (m_z M) 3 v, recP ((m_past M)) ((m_z M)) k6 n820, nI (recN k6), m_slots M, m_isSaved M, m_pad M, m_typed M, m_spot M, m_told M, m_toldMany M)) H := hP
    have hD : va_D A (moT ca h a (upd (m_z M) 3 v, recP ((m_past M)) ((m_z M)) k6 n820, nI (recN k6), m_slots M, m_isSaved M, m_pad M, m_typed M, m_spot M, m_told M, m_toldMany M)) := hD
    refine lv_iload_n hx hb dX5_set_29 rfl (lv_at hl 0 rfl) ?_
    refine lv_eqi (y := m_z M 3) rfl ?_
    exact hret _ _ _ _ hP hS dX5_set_30
  · skip
    exact absurd c_1 (by decide)
