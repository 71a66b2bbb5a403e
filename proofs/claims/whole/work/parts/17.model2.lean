/-! the reference: weather, the history, texts -/
def zSu (z : Nat → Int32) : Nat → (Nat → Int32)
  | 0 => z
  | i + 1 => if zFz (zSu z i) i = 0 then (if zSu z i 1 ≤ zSu z i (8 + 5 * i + 1)
      then upd (upd (zSu z i) (8 + 5 * i + 1) (zSu z i (8 + 5 * i + 1) - zSu z i 1)) 6 (upd (zSu z i) (8 + 5 * i + 1) (zSu z i (8 + 5 * i + 1) - zSu z i 1) 6 + zSu z i 1)
      else upd (upd (zSu z i) (8 + 5 * i + 1) (zSu z i (8 + 5 * i + 1) - zSu z i (8 + 5 * i + 1))) 6 (upd (zSu z i) (8 + 5 * i + 1) (zSu z i (8 + 5 * i + 1) - zSu z i (8 + 5 * i + 1)) 6 + zSu z i (8 + 5 * i + 1)))
    else upd (zSu z i) (8 + 5 * i + 2) 0
theorem zSu_s (z : Nat → Int32) (i : Nat) : zSu z (i + 1) = if zFz (zSu z i) i = 0 then (if zSu z i 1 ≤ zSu z i (8 + 5 * i + 1)
      then upd (upd (zSu z i) (8 + 5 * i + 1) (zSu z i (8 + 5 * i + 1) - zSu z i 1)) 6 (upd (zSu z i) (8 + 5 * i + 1) (zSu z i (8 + 5 * i + 1) - zSu z i 1) 6 + zSu z i 1)
      else upd (upd (zSu z i) (8 + 5 * i + 1) (zSu z i (8 + 5 * i + 1) - zSu z i (8 + 5 * i + 1))) 6 (upd (zSu z i) (8 + 5 * i + 1) (zSu z i (8 + 5 * i + 1) - zSu z i (8 + 5 * i + 1)) 6 + zSu z i (8 + 5 * i + 1)))
    else upd (zSu z i) (8 + 5 * i + 2) 0 := rfl
def zRa (z : Nat → Int32) (am : Int32) : Nat → (Nat → Int32) × Int32
  | 0 => (z, 0)
  | i + 1 => if zFz (zRa z am i).1 i = 0 then (if (zRa z am i).1 (8 + 5 * i + 1) + am + (zRa z am i).2 ≤ (zRa z am i).1 (8 + 5 * i + 0)
      then (upd (upd (zRa z am i).1 5 ((zRa z am i).1 5 + am)) (8 + 5 * i + 1) ((zRa z am i).1 (8 + 5 * i + 1) + am + (zRa z am i).2 - 0), 0)
      else (upd (upd (zRa z am i).1 5 ((zRa z am i).1 5 + am)) (8 + 5 * i + 1) ((zRa z am i).1 (8 + 5 * i + 1) + am + (zRa z am i).2 - ((zRa z am i).1 (8 + 5 * i + 1) + am + (zRa z am i).2 - (zRa z am i).1 (8 + 5 * i + 0))), (zRa z am i).1 (8 + 5 * i + 1) + am + (zRa z am i).2 - (zRa z am i).1 (8 + 5 * i + 0)))
    else (upd (zRa z am i).1 7 ((zRa z am i).1 7 + (zRa z am i).2), 0)
theorem zRa_s (z : Nat → Int32) (am : Int32) (i : Nat) : zRa z am (i + 1) = if zFz (zRa z am i).1 i = 0 then (if (zRa z am i).1 (8 + 5 * i + 1) + am + (zRa z am i).2 ≤ (zRa z am i).1 (8 + 5 * i + 0)
      then (upd (upd (zRa z am i).1 5 ((zRa z am i).1 5 + am)) (8 + 5 * i + 1) ((zRa z am i).1 (8 + 5 * i + 1) + am + (zRa z am i).2 - 0), 0)
      else (upd (upd (zRa z am i).1 5 ((zRa z am i).1 5 + am)) (8 + 5 * i + 1) ((zRa z am i).1 (8 + 5 * i + 1) + am + (zRa z am i).2 - ((zRa z am i).1 (8 + 5 * i + 1) + am + (zRa z am i).2 - (zRa z am i).1 (8 + 5 * i + 0))), (zRa z am i).1 (8 + 5 * i + 1) + am + (zRa z am i).2 - (zRa z am i).1 (8 + 5 * i + 0)))
    else (upd (zRa z am i).1 7 ((zRa z am i).1 7 + (zRa z am i).2), 0) := rfl
def zFr (z : Nat → Int32) : Nat → (Nat → Int32) | 0 => z | i + 1 => if 4 ≤ zFr z i (8 + 5 * i + 1) / 5 then upd (zFr z i) (8 + 5 * i + 2) (zFr z i (8 + 5 * i + 2)) else upd (zFr z i) (8 + 5 * i + 2) 1
theorem zFr_s (z : Nat → Int32) (i : Nat) : zFr z (i + 1) = if 4 ≤ zFr z i (8 + 5 * i + 1) / 5 then upd (zFr z i) (8 + 5 * i + 2) (zFr z i (8 + 5 * i + 2)) else upd (zFr z i) (8 + 5 * i + 2) 1 := rfl
def zE1 (z : Nat → Int32) : Nat → (Nat → Int32) | 0 => z | i + 1 => if zE1 z i (8 + 5 * i + 1) < zE1 z i 2 then upd (zE1 z i) (8 + 5 * i + 3) 0 else if zFz (zE1 z i) i = 0 then upd (zE1 z i) (8 + 5 * i + 3) 1 else upd (zE1 z i) (8 + 5 * i + 3) 0
theorem zE1_s (z : Nat → Int32) (i : Nat) : zE1 z (i + 1) = if zE1 z i (8 + 5 * i + 1) < zE1 z i 2 then upd (zE1 z i) (8 + 5 * i + 3) 0 else if zFz (zE1 z i) i = 0 then upd (zE1 z i) (8 + 5 * i + 3) 1 else upd (zE1 z i) (8 + 5 * i + 3) 0 := rfl
def zE2 (z : Nat → Int32) : Nat → (Nat → Int32) | 0 => z | k + 1 => if zE2 z k (92 + k) ≤ 0 then upd (zE2 z k) (92 + k) (zE2 z k (92 + k) - 0) else if zFz (zE2 z k) (k % 12) = 0 then upd (zE2 z k) (92 + k) (zE2 z k (92 + k) - 1) else upd (zE2 z k) (92 + k) (zE2 z k (92 + k) - 0)
theorem zE2_s (z : Nat → Int32) (k : Nat) : zE2 z (k + 1) = if zE2 z k (92 + k) ≤ 0 then upd (zE2 z k) (92 + k) (zE2 z k (92 + k) - 0) else if zFz (zE2 z k) (k % 12) = 0 then upd (zE2 z k) (92 + k) (zE2 z k (92 + k) - 1) else upd (zE2 z k) (92 + k) (zE2 z k (92 + k) - 0) := rfl
def zEd (z : Nat → Int32) (n12 n72 : Nat) : Nat → Int32 := zE2 (upd (zE1 z n12) 4 (zE1 z n12 4 + 1)) n72
def zDn (z : Nat → Int32) (p : Nat) (x : Int32) : Nat → Int32 := if z (8 + 5 * p + 1) - x ≤ 0 then z else upd (upd z (8 + 5 * p + 1) x) 7 (upd z (8 + 5 * p + 1) x 7 + (z (8 + 5 * p + 1) - x))
set_option maxHeartbeats 4000000 in
set_option maxRecDepth 100000 in
theorem c_X5_drainAbove (l : Launch) (G : va_G) (ca : Nat → ClassId) (h : Nat) (a : Nat → Nat) (M : MM) (p : Nat) (x : Int32) (hp : p < 12) : CtV l yX5_drainAbove wsX5_drainAbove ({ frames := 1, cells := 0, slots := 0, locals := 23 }) [.ref h, .int (nI p), .int x] G ca (moT ca h a M) (moT ca h a (zDn (m_z M) p x, m_past M, m_states M, m_slots M, m_isSaved M, m_pad M, m_typed M, m_spot M, m_told M, m_toldMany M)) := by
  refine CtV.ofW (cc := cX5_drainAbove) (maxL := 4) (by decide) rfl (Nat.le_of_ble_eq_true rfl) ?_
  intro pr en s m be me c A ls Q H hx hb hml hts hown hev hP hD hA hS hl hret
  have hown : s.vm.findClass RX5 = some m.cls := hown
  have hl : lv_has ls 4 [(0, .ref h), (1, .int (nI p)), (2, .int x)] := hl
  have in_wsX50 : ∀ w ∈ wsX50, w ∈ wsX5_drainAbove := fun _ h => List.mem_cons_of_mem _ (List.mem_append_right _ h)
  refine lv_aload_n hx hb dX5_drainAbove_0 rfl (lv_at hl 0 rfl) ?_
  refine lv_iload_n hx hb dX5_drainAbove_1 rfl (lv_at hl 1 rfl) ?_
  refine lv_iconst (v := nI 1) hx hb dX5_drainAbove_2 (by decide) ?_
  refine goIw (va_runV (As := [.int (nI p), .int (nI 1)]) (rest := []) ⟨hx, hb, hml, hown, hts⟩ (CtI.use (c_X5_of l G ca h a M p 1 (by omega) (by omega)) H.size) (cwV 2 hts gX5_drainAbove_X5_of rfl rfl rfl (by decide +kernel) ⟨Nat.le_of_ble_eq_true rfl, Nat.le_of_ble_eq_true rfl⟩) (pcW_V hev hP hD (q0 := 0) rfl rfl rfl) rfl rfl hl.1 rfl (lv_room (Nat.le_of_ble_eq_true rfl)) dX5_drainAbove_3 ⟨Nat.zero_le _, Nat.zero_le _⟩) hD hS hA moF (fun H locs hP hD hS => ?_)
  refine lv_eqi (y := (m_z M) (8 + 5 * p + 1)) rfl ?_
  refine lv_iload_n hx hb dX5_drainAbove_6 rfl (lv_at hl 2 rfl) ?_
  refine lv_isub hx hb dX5_drainAbove_7 ?_
  refine lv_istore_n (lv' := [(3, .int (((m_z M) (8 + 5 * p + 1)) - x)), (0, .ref h), (1, .int (nI p)), (2, .int x)]) hx hb dX5_drainAbove_8 rfl hl (by decide) rfl (fun ls hl => ?_)
  refine lv_iload_n hx hb dX5_drainAbove_9 rfl (lv_at hl 0 rfl) ?_
  refine lv_if_le (tgt := 31) hx hb dX5_drainAbove_10 (by decide) (fun c_1 => ?_) (fun c_1 => ?_)
  · skip
    have e_2 : (zDn (m_z M) p x) = (m_z M) := by rw [zDn, if_pos c_1]
    exact hret _ _ _ _ (by rw [e_2]; exact hP) hS dX5_drainAbove_31
  · skip
    refine lv_aload_n hx hb dX5_drainAbove_13 rfl (lv_at hl 1 rfl) ?_
    refine lv_iload_n hx hb dX5_drainAbove_14 rfl (lv_at hl 2 rfl) ?_
    refine lv_iconst (v := nI 1) hx hb dX5_drainAbove_15 (by decide) ?_
    refine lv_iload_n hx hb dX5_drainAbove_16 rfl (lv_at hl 3 rfl) ?_
    refine goVw (va_runV (As := [.int (nI p), .int (nI 1), .int x]) (rest := []) ⟨hx, hb, hml, hown, hts⟩ (CtV.use (c_X5_lay l G ca h a M p 1 x (by omega) (by omega)) H.size) (cwV 3 hts gX5_drainAbove_X5_lay rfl rfl rfl (by decide +kernel) ⟨Nat.le_of_ble_eq_true rfl, Nat.le_of_ble_eq_true rfl⟩) (pcW_V hev hP hD (q0 := 0) rfl rfl rfl) rfl rfl hl.1 rfl (lv_room (Nat.le_of_ble_eq_true rfl)) dX5_drainAbove_17 ⟨Nat.zero_le _, Nat.zero_le _⟩) hD hS hA moF (fun H locs hP hD hS => ?_)
    refine lv_aload_n hx hb dX5_drainAbove_20 rfl (lv_at hl 1 rfl) ?_
    refine va_get (D := G) (ci := 5) (v := .ref (a 0)) (C := RX5) (T := TX5) (N := 10) hx hb hts in_wsX50 hown hev.1 hP 0 rfl rfl 0 (by decide) (hts (.fieldLink RX5 7 "PuddleMinistriesModel" "z" "[I") (List.mem_of_getElem? (i := 1) rfl)) (fun _ h9 => h9) rfl dX5_drainAbove_21 ?_
    refine lv_bipush (v := nI 7) hx hb dX5_drainAbove_24 (by decide) ?_
    refine lv_dup2_11 hx hb dX5_drainAbove_26 rfl rfl ?_
    refine b_iald hx hb hev.1 hP 1 rfl rfl (j := 7) (by omega) (by decide) dX5_drainAbove_27 ?_
    refine lv_iload_n hx hb dX5_drainAbove_28 rfl (lv_at hl 0 rfl) ?_
    refine lv_iadd hx hb dX5_drainAbove_29 ?_
    refine b_iast hx hb hev.1 hP hD hS 1 rfl rfl (j := 7) (by omega) (by decide) dX5_drainAbove_30 (fun H locs hP hD hS => ?_)
    have hP : va_P G vwCl (moT ca h a (upd (upd ((m_z M)) (8 + 5 * p + 1) x) 7 (((upd (m_z M) (8 + 5 * p + 1) x) 7) + (((m_z M) (8 + 5 * p + 1)) - x)), m_past M, m_states M, m_slots M, m_isSaved M, m_pad M, m_typed M, m_spot M, m_told M, m_toldMany M)) H := hP
    have hD : va_D A (moT ca h a (upd (upd ((m_z M)) (8 + 5 * p + 1) x) 7 (((upd (m_z M) (8 + 5 * p + 1) x) 7) + (((m_z M) (8 + 5 * p + 1)) - x)), m_past M, m_states M, m_slots M, m_isSaved M, m_pad M, m_typed M, m_spot M, m_told M, m_toldMany M)) := hD
    have e_3 : (zDn (m_z M) p x) = (upd (upd ((m_z M)) (8 + 5 * p + 1) x) 7 (((upd (m_z M) (8 + 5 * p + 1) x) 7) + (((m_z M) (8 + 5 * p + 1)) - x))) := by rw [zDn, if_neg c_1]
    exact hret _ _ _ _ (by rw [e_3]; exact hP) hS dX5_drainAbove_31
set_option maxHeartbeats 4000000 in
set_option maxRecDepth 100000 in
theorem c_X5_sun (l : Launch) (G : va_G) (ca : Nat → ClassId) (h : Nat) (a : Nat → Nat) (M : MM) (n12 : Nat) (h12 : n12 = 12) : CtV l yX5_sun wsX5_sun ({ frames := 2, cells := 0, slots := 0, locals := 43 }) [.ref h] G ca (moT ca h a M) (moT ca h a (zSu (m_z M) n12, m_past M, m_states M, m_slots M, m_isSaved M, m_pad M, m_typed M, m_spot M, m_told M, m_toldMany M)) := by
  refine CtV.ofW (cc := cX5_sun) (maxL := 3) (by decide) rfl (Nat.le_of_ble_eq_true rfl) ?_
  intro pr en s m be me c A ls Q H hx hb hml hts hown hev hP hD hA hS hl hret
  have hown : s.vm.findClass RX5 = some m.cls := hown
  have hl : lv_has ls 3 [(0, .ref h)] := hl
  have in_wsX50 : ∀ w ∈ wsX50, w ∈ wsX5_sun := fun _ h => List.mem_cons_of_mem _ (List.mem_append_right _ h)
  refine lv_iconst (v := nI 0) hx hb dX5_sun_0 (by decide) ?_
  refine lv_istore_n (lv' := [(1, .int (nI 0)), (0, .ref h)]) hx hb dX5_sun_1 rfl hl (by decide) rfl (fun ls hl => ?_)
  have loop_2 : ∀ (n i : Nat), i + n = n12 → ∀ (H : Heap) (locs : List Loc) (ls : Array Slot), va_P G vwCl (moT ca h a (zSu (m_z M) i, m_past M, m_states M, m_slots M, m_isSaved M, m_pad M, m_typed M, m_spot M, m_told M, m_toldMany M)) H → va_D A (moT ca h a (zSu (m_z M) i, m_past M, m_states M, m_slots M, m_isSaved M, m_pad M, m_typed M, m_spot M, m_told M, m_toldMany M)) → va_S A s.heap H locs → lv_has ls 3 [(0, .ref h), (1, .int (nI i))] → W pr l en ({ frames := 2, cells := 0, slots := 0, locals := 43 } : Room) s m ([.ref h] : List Value).toArray be me c H locs 0 0 Q (F0 m 2 ls []) := by
    intro n
    induction n with
    | zero =>
      intro i hi H locs ls hP hD hS hl
      obtain rfl : n12 = i := by omega
      refine lv_iload_n hx hb dX5_sun_2 rfl (lv_at hl 1 rfl) ?_
      refine lv_bipush (v := nI 12) hx hb dX5_sun_3 (by decide) ?_
      refine lv_icmp_ge (tgt := 88) hx hb dX5_sun_5 (by decide) (fun c_1 => ?_) (fun c_1 => ?_)
      · skip
        exact hret _ _ _ _ hP hS dX5_sun_88
      · skip
        exact absurd (nI_le (by omega) (by omega)) c_1
    | succ n ih =>
      intro i hi H locs ls hP hD hS hl
      have hlt : i < n12 := by omega
      refine lv_iload_n hx hb dX5_sun_2 rfl (lv_at hl 1 rfl) ?_
      refine lv_bipush (v := nI 12) hx hb dX5_sun_3 (by decide) ?_
      refine lv_icmp_ge (tgt := 88) hx hb dX5_sun_5 (by decide) (fun c_2 => ?_) (fun c_2 => ?_)
      · skip
        exact absurd c_2 (nI_ge (by omega) (by omega))
      · skip
        refine lv_aload_n hx hb dX5_sun_8 rfl (lv_at hl 0 rfl) ?_
        refine lv_iload_n hx hb dX5_sun_9 rfl (lv_at hl 1 rfl) ?_
        refine goIw (va_runV (As := [.int (nI i)]) (rest := []) ⟨hx, hb, hml, hown, hts⟩ (CtI.use (c_X5_isFrozen l G ca h a (zSu (m_z M) i, m_past M, m_states M, m_slots M, m_isSaved M, m_pad M, m_typed M, m_spot M, m_told M, m_toldMany M) i (by omega)) H.size) (cwV 1 hts gX5_sun_X5_isFrozen rfl rfl rfl (by decide +kernel) ⟨Nat.le_of_ble_eq_true rfl, Nat.le_of_ble_eq_true rfl⟩) (pcW_V hev hP hD (q0 := 0) rfl rfl rfl) rfl rfl hl.1 rfl (lv_room (Nat.le_of_ble_eq_true rfl)) dX5_sun_10 ⟨Nat.zero_le _, Nat.zero_le _⟩) hD hS hA moF (fun H locs hP hD hS => ?_)
        refine lv_eqi (y := zFz (zSu (m_z M) i) i) rfl ?_
        refine lv_if_eq (tgt := 26) hx hb dX5_sun_13 (by decide) (fun c_3 => ?_) (fun c_3 => ?_)
        · skip
          refine lv_aload_n hx hb dX5_sun_26 rfl (lv_at hl 0 rfl) ?_
          refine lv_iload_n hx hb dX5_sun_27 rfl (lv_at hl 1 rfl) ?_
          refine lv_iconst (v := nI 1) hx hb dX5_sun_28 (by decide) ?_
          refine goIw (va_runV (As := [.int (nI i), .int (nI 1)]) (rest := []) ⟨hx, hb, hml, hown, hts⟩ (CtI.use (c_X5_of l G ca h a (zSu (m_z M) i, m_past M, m_states M, m_slots M, m_isSaved M, m_pad M, m_typed M, m_spot M, m_told M, m_toldMany M) i 1 (by omega) (by omega)) H.size) (cwV 2 hts gX5_sun_X5_of rfl rfl rfl (by decide +kernel) ⟨Nat.le_of_ble_eq_true rfl, Nat.le_of_ble_eq_true rfl⟩) (pcW_V hev hP hD (q0 := 0) rfl rfl rfl) rfl rfl hl.1 rfl (lv_room (Nat.le_of_ble_eq_true rfl)) dX5_sun_29 ⟨Nat.zero_le _, Nat.zero_le _⟩) hD hS hA moF (fun H locs hP hD hS => ?_)
          refine lv_eqi (y := (zSu (m_z M) i) (8 + 5 * i + 1)) rfl ?_
          refine lv_aload_n hx hb dX5_sun_32 rfl (lv_at hl 0 rfl) ?_
          refine va_get (D := G) (ci := 5) (v := .ref (a 0)) (C := RX5) (T := TX5) (N := 10) hx hb hts in_wsX50 hown hev.1 hP 0 rfl rfl 0 (by decide) (hts (.fieldLink RX5 7 "PuddleMinistriesModel" "z" "[I") (List.mem_of_getElem? (i := 1) rfl)) (fun _ h9 => h9) rfl dX5_sun_33 ?_
          refine lv_iconst (v := nI 1) hx hb dX5_sun_36 (by decide) ?_
          refine b_iald hx hb hev.1 hP 1 rfl rfl (j := 1) (by omega) (by decide) dX5_sun_37 ?_
          refine lv_icmp_ge (tgt := 50) hx hb dX5_sun_38 (by decide) (fun c_4 => ?_) (fun c_4 => ?_)
          · skip
            refine lv_aload_n hx hb dX5_sun_50 rfl (lv_at hl 0 rfl) ?_
            refine va_get (D := G) (ci := 5) (v := .ref (a 0)) (C := RX5) (T := TX5) (N := 10) hx hb hts in_wsX50 hown hev.1 hP 0 rfl rfl 0 (by decide) (hts (.fieldLink RX5 7 "PuddleMinistriesModel" "z" "[I") (List.mem_of_getElem? (i := 1) rfl)) (fun _ h9 => h9) rfl dX5_sun_51 ?_
            refine lv_iconst (v := nI 1) hx hb dX5_sun_54 (by decide) ?_
            refine b_iald hx hb hev.1 hP 1 rfl rfl (j := 1) (by omega) (by decide) dX5_sun_55 ?_
            refine lv_istore_n (lv' := [(2, .int ((zSu (m_z M) i) 1)), (0, .ref h), (1, .int (nI i))]) hx hb dX5_sun_56 rfl hl (by decide) rfl (fun ls hl => ?_)
            refine lv_aload_n hx hb dX5_sun_57 rfl (lv_at hl 1 rfl) ?_
            refine lv_iload_n hx hb dX5_sun_58 rfl (lv_at hl 2 rfl) ?_
            refine lv_iconst (v := nI 1) hx hb dX5_sun_59 (by decide) ?_
            refine lv_aload_n hx hb dX5_sun_60 rfl (lv_at hl 1 rfl) ?_
            refine lv_iload_n hx hb dX5_sun_61 rfl (lv_at hl 2 rfl) ?_
            refine lv_iconst (v := nI 1) hx hb dX5_sun_62 (by decide) ?_
            refine goIw (va_runV (As := [.int (nI i), .int (nI 1)]) (rest := [.int (nI 1), .int (nI i), .ref h]) ⟨hx, hb, hml, hown, hts⟩ (CtI.use (c_X5_of l G ca h a (zSu (m_z M) i, m_past M, m_states M, m_slots M, m_isSaved M, m_pad M, m_typed M, m_spot M, m_told M, m_toldMany M) i 1 (by omega) (by omega)) H.size) (cwV 2 hts gX5_sun_X5_of rfl rfl rfl (by decide +kernel) ⟨Nat.le_of_ble_eq_true rfl, Nat.le_of_ble_eq_true rfl⟩) (pcW_V hev hP hD (q0 := 0) rfl rfl rfl) rfl rfl hl.1 rfl (lv_room (Nat.le_of_ble_eq_true rfl)) dX5_sun_63 ⟨Nat.zero_le _, Nat.zero_le _⟩) hD hS hA moF (fun H locs hP hD hS => ?_)
            refine lv_eqi (y := (zSu (m_z M) i) (8 + 5 * i + 1)) rfl ?_
            refine lv_iload_n hx hb dX5_sun_66 rfl (lv_at hl 0 rfl) ?_
            refine lv_isub hx hb dX5_sun_67 ?_
            refine goVw (va_runV (As := [.int (nI i), .int (nI 1), .int (((zSu (m_z M) i) (8 + 5 * i + 1)) - ((zSu (m_z M) i) 1))]) (rest := []) ⟨hx, hb, hml, hown, hts⟩ (CtV.use (c_X5_lay l G ca h a (zSu (m_z M) i, m_past M, m_states M, m_slots M, m_isSaved M, m_pad M, m_typed M, m_spot M, m_told M, m_toldMany M) i 1 (((zSu (m_z M) i) (8 + 5 * i + 1)) - ((zSu (m_z M) i) 1)) (by omega) (by omega)) H.size) (cwV 3 hts gX5_sun_X5_lay rfl rfl rfl (by decide +kernel) ⟨Nat.le_of_ble_eq_true rfl, Nat.le_of_ble_eq_true rfl⟩) (pcW_V hev hP hD (q0 := 0) rfl rfl rfl) rfl rfl hl.1 rfl (lv_room (Nat.le_of_ble_eq_true rfl)) dX5_sun_68 ⟨Nat.zero_le _, Nat.zero_le _⟩) hD hS hA moF (fun H locs hP hD hS => ?_)
            refine lv_aload_n hx hb dX5_sun_71 rfl (lv_at hl 1 rfl) ?_
            refine va_get (D := G) (ci := 5) (v := .ref (a 0)) (C := RX5) (T := TX5) (N := 10) hx hb hts in_wsX50 hown hev.1 hP 0 rfl rfl 0 (by decide) (hts (.fieldLink RX5 7 "PuddleMinistriesModel" "z" "[I") (List.mem_of_getElem? (i := 1) rfl)) (fun _ h9 => h9) rfl dX5_sun_72 ?_
            refine lv_bipush (v := nI 6) hx hb dX5_sun_75 (by decide) ?_
            refine lv_dup2_11 hx hb dX5_sun_77 rfl rfl ?_
            refine b_iald hx hb hev.1 hP 1 rfl rfl (j := 6) (by omega) (by decide) dX5_sun_78 ?_
            refine lv_iload_n hx hb dX5_sun_79 rfl (lv_at hl 0 rfl) ?_
            refine lv_iadd hx hb dX5_sun_80 ?_
            refine b_iast hx hb hev.1 hP hD hS 1 rfl rfl (j := 6) (by omega) (by decide) dX5_sun_81 (fun H locs hP hD hS => ?_)
            have hP : va_P G vwCl (moT ca h a (upd (upd ((zSu (m_z M) i)) (8 + 5 * i + 1) (((zSu (m_z M) i) (8 + 5 * i + 1)) - ((zSu (m_z M) i) 1))) 6 (((upd (zSu (m_z M) i) (8 + 5 * i + 1) (((zSu (m_z M) i) (8 + 5 * i + 1)) - ((zSu (m_z M) i) 1))) 6) + ((zSu (m_z M) i) 1)), m_past M, m_states M, m_slots M, m_isSaved M, m_pad M, m_typed M, m_spot M, m_told M, m_toldMany M)) H := hP
            have hD : va_D A (moT ca h a (upd (upd ((zSu (m_z M) i)) (8 + 5 * i + 1) (((zSu (m_z M) i) (8 + 5 * i + 1)) - ((zSu (m_z M) i) 1))) 6 (((upd (zSu (m_z M) i) (8 + 5 * i + 1) (((zSu (m_z M) i) (8 + 5 * i + 1)) - ((zSu (m_z M) i) 1))) 6) + ((zSu (m_z M) i) 1)), m_past M, m_states M, m_slots M, m_isSaved M, m_pad M, m_typed M, m_spot M, m_told M, m_toldMany M)) := hD
            refine lv_iinc (v := nI (i + 1)) (lv' := [(1, .int (nI (i + 1))), (2, .int ((zSu (m_z M) i) 1)), (0, .ref h)]) hx hb dX5_sun_82 hl (k := 2) rfl (nI_1 _) (by decide) rfl (fun ls hl => ?_)
            refine lv_goto (tgt := 2) hx hb dX5_sun_85 (by decide) ?_
            exact ih (i + 1) (by omega) _ _ _ (by rw [show (zSu (m_z M) (i + 1)) = (upd (upd ((zSu (m_z M) i)) (8 + 5 * i + 1) (((zSu (m_z M) i) (8 + 5 * i + 1)) - ((zSu (m_z M) i) 1))) 6 (((upd (zSu (m_z M) i) (8 + 5 * i + 1) (((zSu (m_z M) i) (8 + 5 * i + 1)) - ((zSu (m_z M) i) 1))) 6) + ((zSu (m_z M) i) 1))) from by rw [zSu_s, if_pos c_3, if_pos c_4]]; exact hP) (D_of hD moF) hS (lv_sub hl [2, 0] rfl)
          · skip
            refine lv_aload_n hx hb dX5_sun_41 rfl (lv_at hl 0 rfl) ?_
            refine lv_iload_n hx hb dX5_sun_42 rfl (lv_at hl 1 rfl) ?_
            refine lv_iconst (v := nI 1) hx hb dX5_sun_43 (by decide) ?_
            refine goIw (va_runV (As := [.int (nI i), .int (nI 1)]) (rest := []) ⟨hx, hb, hml, hown, hts⟩ (CtI.use (c_X5_of l G ca h a (zSu (m_z M) i, m_past M, m_states M, m_slots M, m_isSaved M, m_pad M, m_typed M, m_spot M, m_told M, m_toldMany M) i 1 (by omega) (by omega)) H.size) (cwV 2 hts gX5_sun_X5_of rfl rfl rfl (by decide +kernel) ⟨Nat.le_of_ble_eq_true rfl, Nat.le_of_ble_eq_true rfl⟩) (pcW_V hev hP hD (q0 := 0) rfl rfl rfl) rfl rfl hl.1 rfl (lv_room (Nat.le_of_ble_eq_true rfl)) dX5_sun_44 ⟨Nat.zero_le _, Nat.zero_le _⟩) hD hS hA moF (fun H locs hP hD hS => ?_)
            refine lv_eqi (y := (zSu (m_z M) i) (8 + 5 * i + 1)) rfl ?_
            refine lv_goto (tgt := 56) hx hb dX5_sun_47 (by decide) ?_
            refine lv_istore_n (lv' := [(2, .int ((zSu (m_z M) i) (8 + 5 * i + 1))), (0, .ref h), (1, .int (nI i))]) hx hb dX5_sun_56 rfl hl (by decide) rfl (fun ls hl => ?_)
            refine lv_aload_n hx hb dX5_sun_57 rfl (lv_at hl 1 rfl) ?_
            refine lv_iload_n hx hb dX5_sun_58 rfl (lv_at hl 2 rfl) ?_
            refine lv_iconst (v := nI 1) hx hb dX5_sun_59 (by decide) ?_
            refine lv_aload_n hx hb dX5_sun_60 rfl (lv_at hl 1 rfl) ?_
            refine lv_iload_n hx hb dX5_sun_61 rfl (lv_at hl 2 rfl) ?_
            refine lv_iconst (v := nI 1) hx hb dX5_sun_62 (by decide) ?_
            refine goIw (va_runV (As := [.int (nI i), .int (nI 1)]) (rest := [.int (nI 1), .int (nI i), .ref h]) ⟨hx, hb, hml, hown, hts⟩ (CtI.use (c_X5_of l G ca h a (zSu (m_z M) i, m_past M, m_states M, m_slots M, m_isSaved M, m_pad M, m_typed M, m_spot M, m_told M, m_toldMany M) i 1 (by omega) (by omega)) H.size) (cwV 2 hts gX5_sun_X5_of rfl rfl rfl (by decide +kernel) ⟨Nat.le_of_ble_eq_true rfl, Nat.le_of_ble_eq_true rfl⟩) (pcW_V hev hP hD (q0 := 0) rfl rfl rfl) rfl rfl hl.1 rfl (lv_room (Nat.le_of_ble_eq_true rfl)) dX5_sun_63 ⟨Nat.zero_le _, Nat.zero_le _⟩) hD hS hA moF (fun H locs hP hD hS => ?_)
            refine lv_eqi (y := (zSu (m_z M) i) (8 + 5 * i + 1)) rfl ?_
            refine lv_iload_n hx hb dX5_sun_66 rfl (lv_at hl 0 rfl) ?_
            refine lv_isub hx hb dX5_sun_67 ?_
            refine goVw (va_runV (As := [.int (nI i), .int (nI 1), .int (((zSu (m_z M) i) (8 + 5 * i + 1)) - ((zSu (m_z M) i) (8 + 5 * i + 1)))]) (rest := []) ⟨hx, hb, hml, hown, hts⟩ (CtV.use (c_X5_lay l G ca h a (zSu (m_z M) i, m_past M, m_states M, m_slots M, m_isSaved M, m_pad M, m_typed M, m_spot M, m_told M, m_toldMany M) i 1 (((zSu (m_z M) i) (8 + 5 * i + 1)) - ((zSu (m_z M) i) (8 + 5 * i + 1))) (by omega) (by omega)) H.size) (cwV 3 hts gX5_sun_X5_lay rfl rfl rfl (by decide +kernel) ⟨Nat.le_of_ble_eq_true rfl, Nat.le_of_ble_eq_true rfl⟩) (pcW_V hev hP hD (q0 := 0) rfl rfl rfl) rfl rfl hl.1 rfl (lv_room (Nat.le_of_ble_eq_true rfl)) dX5_sun_68 ⟨Nat.zero_le _, Nat.zero_le _⟩) hD hS hA moF (fun H locs hP hD hS => ?_)
            refine lv_aload_n hx hb dX5_sun_71 rfl (lv_at hl 1 rfl) ?_
            refine va_get (D := G) (ci := 5) (v := .ref (a 0)) (C := RX5) (T := TX5) (N := 10) hx hb hts in_wsX50 hown hev.1 hP 0 rfl rfl 0 (by decide) (hts (.fieldLink RX5 7 "PuddleMinistriesModel" "z" "[I") (List.mem_of_getElem? (i := 1) rfl)) (fun _ h9 => h9) rfl dX5_sun_72 ?_
            refine lv_bipush (v := nI 6) hx hb dX5_sun_75 (by decide) ?_
            refine lv_dup2_11 hx hb dX5_sun_77 rfl rfl ?_
            refine b_iald hx hb hev.1 hP 1 rfl rfl (j := 6) (by omega) (by decide) dX5_sun_78 ?_
            refine lv_iload_n hx hb dX5_sun_79 rfl (lv_at hl 0 rfl) ?_
            refine lv_iadd hx hb dX5_sun_80 ?_
            refine b_iast hx hb hev.1 hP hD hS 1 rfl rfl (j := 6) (by omega) (by decide) dX5_sun_81 (fun H locs hP hD hS => ?_)
            have hP : va_P G vwCl (moT ca h a (upd (upd ((zSu (m_z M) i)) (8 + 5 * i + 1) (((zSu (m_z M) i) (8 + 5 * i + 1)) - ((zSu (m_z M) i) (8 + 5 * i + 1)))) 6 (((upd (zSu (m_z M) i) (8 + 5 * i + 1) (((zSu (m_z M) i) (8 + 5 * i + 1)) - ((zSu (m_z M) i) (8 + 5 * i + 1)))) 6) + ((zSu (m_z M) i) (8 + 5 * i + 1))), m_past M, m_states M, m_slots M, m_isSaved M, m_pad M, m_typed M, m_spot M, m_told M, m_toldMany M)) H := hP
            have hD : va_D A (moT ca h a (upd (upd ((zSu (m_z M) i)) (8 + 5 * i + 1) (((zSu (m_z M) i) (8 + 5 * i + 1)) - ((zSu (m_z M) i) (8 + 5 * i + 1)))) 6 (((upd (zSu (m_z M) i) (8 + 5 * i + 1) (((zSu (m_z M) i) (8 + 5 * i + 1)) - ((zSu (m_z M) i) (8 + 5 * i + 1)))) 6) + ((zSu (m_z M) i) (8 + 5 * i + 1))), m_past M, m_states M, m_slots M, m_isSaved M, m_pad M, m_typed M, m_spot M, m_told M, m_toldMany M)) := hD
            refine lv_iinc (v := nI (i + 1)) (lv' := [(1, .int (nI (i + 1))), (2, .int ((zSu (m_z M) i) (8 + 5 * i + 1))), (0, .ref h)]) hx hb dX5_sun_82 hl (k := 2) rfl (nI_1 _) (by decide) rfl (fun ls hl => ?_)
            refine lv_goto (tgt := 2) hx hb dX5_sun_85 (by decide) ?_
            exact ih (i + 1) (by omega) _ _ _ (by rw [show (zSu (m_z M) (i + 1)) = (upd (upd ((zSu (m_z M) i)) (8 + 5 * i + 1) (((zSu (m_z M) i) (8 + 5 * i + 1)) - ((zSu (m_z M) i) (8 + 5 * i + 1)))) 6 (((upd (zSu (m_z M) i) (8 + 5 * i + 1) (((zSu (m_z M) i) (8 + 5 * i + 1)) - ((zSu (m_z M) i) (8 + 5 * i + 1)))) 6) + ((zSu (m_z M) i) (8 + 5 * i + 1)))) from by rw [zSu_s, if_pos c_3, if_neg c_4]]; exact hP) (D_of hD moF) hS (lv_sub hl [2, 0] rfl)
        · skip
          refine lv_aload_n hx hb dX5_sun_16 rfl (lv_at hl 0 rfl) ?_
          refine lv_iload_n hx hb dX5_sun_17 rfl (lv_at hl 1 rfl) ?_
          refine lv_iconst (v := nI 2) hx hb dX5_sun_18 (by decide) ?_
          refine lv_iconst (v := 0) hx hb dX5_sun_19 (by decide) ?_
          refine goVw (va_runV (As := [.int (nI i), .int (nI 2), .int 0]) (rest := []) ⟨hx, hb, hml, hown, hts⟩ (CtV.use (c_X5_lay l G ca h a (zSu (m_z M) i, m_past M, m_states M, m_slots M, m_isSaved M, m_pad M, m_typed M, m_spot M, m_told M, m_toldMany M) i 2 0 (by omega) (by omega)) H.size) (cwV 3 hts gX5_sun_X5_lay rfl rfl rfl (by decide +kernel) ⟨Nat.le_of_ble_eq_true rfl, Nat.le_of_ble_eq_true rfl⟩) (pcW_V hev hP hD (q0 := 0) rfl rfl rfl) rfl rfl hl.1 rfl (lv_room (Nat.le_of_ble_eq_true rfl)) dX5_sun_20 ⟨Nat.zero_le _, Nat.zero_le _⟩) hD hS hA moF (fun H locs hP hD hS => ?_)
          refine lv_goto (tgt := 82) hx hb dX5_sun_23 (by decide) ?_
          refine lv_iinc (v := nI (i + 1)) (lv' := [(1, .int (nI (i + 1))), (0, .ref h)]) hx hb dX5_sun_82 hl (k := 1) rfl (nI_1 _) (by decide) rfl (fun ls hl => ?_)
          refine lv_goto (tgt := 2) hx hb dX5_sun_85 (by decide) ?_
          exact ih (i + 1) (by omega) _ _ _ (by rw [show (zSu (m_z M) (i + 1)) = (upd ((zSu (m_z M) i)) (8 + 5 * i + 2) 0) from by rw [zSu_s, if_neg c_3]]; exact hP) (D_of hD moF) hS (lv_sub hl [1, 0] rfl)
  exact loop_2 n12 0 (by omega) _ _ _ hP (D_of hD moF) hS (lv_sub hl [1, 0] rfl)
set_option maxHeartbeats 4000000 in
set_option maxRecDepth 100000 in
theorem c_X5_rain (l : Launch) (G : va_G) (ca : Nat → ClassId) (h : Nat) (a : Nat → Nat) (M : MM) (am : Int32) (n12 : Nat) (h12 : n12 = 12) : CtV l yX5_rain wsX5_rain ({ frames := 2, cells := 0, slots := 0, locals := 43 }) [.ref h, .int am] G ca (moT ca h a M) (moT ca h a (upd (zRa (m_z M) am n12).1 7 ((zRa (m_z M) am n12).1 7 + (zRa (m_z M) am n12).2), m_past M, m_states M, m_slots M, m_isSaved M, m_pad M, m_typed M, m_spot M, m_told M, m_toldMany M)) := by
  refine CtV.ofW (cc := cX5_rain) (maxL := 6) (by decide) rfl (Nat.le_of_ble_eq_true rfl) ?_
  intro pr en s m be me c A ls Q H hx hb hml hts hown hev hP hD hA hS hl hret
  have hown : s.vm.findClass RX5 = some m.cls := hown
  have hl : lv_has ls 6 [(0, .ref h), (1, .int am)] := hl
  have in_wsX50 : ∀ w ∈ wsX50, w ∈ wsX5_rain := fun _ h => List.mem_cons_of_mem _ (List.mem_append_right _ h)
  refine lv_iconst (v := 0) hx hb dX5_rain_0 (by decide) ?_
  refine lv_istore_n (lv' := [(2, .int 0), (0, .ref h), (1, .int am)]) hx hb dX5_rain_1 rfl hl (by decide) rfl (fun ls hl => ?_)
  refine lv_iconst (v := nI 0) hx hb dX5_rain_2 (by decide) ?_
  refine lv_istore_n (lv' := [(3, .int (nI 0)), (2, .int 0), (0, .ref h), (1, .int am)]) hx hb dX5_rain_3 rfl hl (by decide) rfl (fun ls hl => ?_)
  have loop_4 : ∀ (n i : Nat), i + n = n12 → ∀ (H : Heap) (locs : List Loc) (ls : Array Slot), va_P G vwCl (moT ca h a ((zRa (m_z M) am i).1, m_past M, m_states M, m_slots M, m_isSaved M, m_pad M, m_typed M, m_spot M, m_told M, m_toldMany M)) H → va_D A (moT ca h a ((zRa (m_z M) am i).1, m_past M, m_states M, m_slots M, m_isSaved M, m_pad M, m_typed M, m_spot M, m_told M, m_toldMany M)) → va_S A s.heap H locs → lv_has ls 6 [(0, .ref h), (1, .int am), (2, .int ((zRa (m_z M) am i).2)), (3, .int (nI i))] → W pr l en ({ frames := 2, cells := 0, slots := 0, locals := 43 } : Room) s m ([.ref h, .int am] : List Value).toArray be me c H locs 0 0 Q (F0 m 4 ls []) := by
    intro n
    induction n with
    | zero =>
      intro i hi H locs ls hP hD hS hl
      obtain rfl : n12 = i := by omega
      refine lv_iload_n hx hb dX5_rain_4 rfl (lv_at hl 3 rfl) ?_
      refine lv_bipush (v := nI 12) hx hb dX5_rain_5 (by decide) ?_
      refine lv_icmp_ge (tgt := 97) hx hb dX5_rain_7 (by decide) (fun c_1 => ?_) (fun c_1 => ?_)
      · skip
        refine lv_aload_n hx hb dX5_rain_97 rfl (lv_at hl 0 rfl) ?_
        refine va_get (D := G) (ci := 5) (v := .ref (a 0)) (C := RX5) (T := TX5) (N := 10) hx hb hts in_wsX50 hown hev.1 hP 0 rfl rfl 0 (by decide) (hts (.fieldLink RX5 7 "PuddleMinistriesModel" "z" "[I") (List.mem_of_getElem? (i := 1) rfl)) (fun _ h9 => h9) rfl dX5_rain_98 ?_
        refine lv_bipush (v := nI 7) hx hb dX5_rain_101 (by decide) ?_
        refine lv_dup2_11 hx hb dX5_rain_103 rfl rfl ?_
        refine b_iald hx hb hev.1 hP 1 rfl rfl (j := 7) (by omega) (by decide) dX5_rain_104 ?_
        refine lv_iload_n hx hb dX5_rain_105 rfl (lv_at hl 2 rfl) ?_
        refine lv_iadd hx hb dX5_rain_106 ?_
        refine b_iast hx hb hev.1 hP hD hS 1 rfl rfl (j := 7) (by omega) (by decide) dX5_rain_107 (fun H locs hP hD hS => ?_)
        have hP : va_P G vwCl (moT ca h a (upd ((zRa (m_z M) am n12).1) 7 ((((zRa (m_z M) am n12).1) 7) + ((zRa (m_z M) am n12).2)), m_past M, m_states M, m_slots M, m_isSaved M, m_pad M, m_typed M, m_spot M, m_told M, m_toldMany M)) H := hP
        have hD : va_D A (moT ca h a (upd ((zRa (m_z M) am n12).1) 7 ((((zRa (m_z M) am n12).1) 7) + ((zRa (m_z M) am n12).2)), m_past M, m_states M, m_slots M, m_isSaved M, m_pad M, m_typed M, m_spot M, m_told M, m_toldMany M)) := hD
        exact hret _ _ _ _ hP hS dX5_rain_108
      · skip
        exact absurd (nI_le (by omega) (by omega)) c_1
    | succ n ih =>
      intro i hi H locs ls hP hD hS hl
      have hlt : i < n12 := by omega
      refine lv_iload_n hx hb dX5_rain_4 rfl (lv_at hl 3 rfl) ?_
      refine lv_bipush (v := nI 12) hx hb dX5_rain_5 (by decide) ?_
      refine lv_icmp_ge (tgt := 97) hx hb dX5_rain_7 (by decide) (fun c_2 => ?_) (fun c_2 => ?_)
      · skip
        exact absurd c_2 (nI_ge (by omega) (by omega))
      · skip
        refine lv_aload_n hx hb dX5_rain_10 rfl (lv_at hl 0 rfl) ?_
        refine lv_iload_n hx hb dX5_rain_11 rfl (lv_at hl 3 rfl) ?_
        refine goIw (va_runV (As := [.int (nI i)]) (rest := []) ⟨hx, hb, hml, hown, hts⟩ (CtI.use (c_X5_isFrozen l G ca h a ((zRa (m_z M) am i).1, m_past M, m_states M, m_slots M, m_isSaved M, m_pad M, m_typed M, m_spot M, m_told M, m_toldMany M) i (by omega)) H.size) (cwV 1 hts gX5_rain_X5_isFrozen rfl rfl rfl (by decide +kernel) ⟨Nat.le_of_ble_eq_true rfl, Nat.le_of_ble_eq_true rfl⟩) (pcW_V hev hP hD (q0 := 0) rfl rfl rfl) rfl rfl hl.1 rfl (lv_room (Nat.le_of_ble_eq_true rfl)) dX5_rain_12 ⟨Nat.zero_le _, Nat.zero_le _⟩) hD hS hA moF (fun H locs hP hD hS => ?_)
        refine lv_eqi (y := zFz ((zRa (m_z M) am i).1) i) rfl ?_
        refine lv_if_eq (tgt := 34) hx hb dX5_rain_15 (by decide) (fun c_3 => ?_) (fun c_3 => ?_)
        · skip
          refine lv_aload_n hx hb dX5_rain_34 rfl (lv_at hl 0 rfl) ?_
          refine lv_iload_n hx hb dX5_rain_35 rfl (lv_at hl 3 rfl) ?_
          refine lv_iconst (v := nI 1) hx hb dX5_rain_36 (by decide) ?_
          refine goIw (va_runV (As := [.int (nI i), .int (nI 1)]) (rest := []) ⟨hx, hb, hml, hown, hts⟩ (CtI.use (c_X5_of l G ca h a ((zRa (m_z M) am i).1, m_past M, m_states M, m_slots M, m_isSaved M, m_pad M, m_typed M, m_spot M, m_told M, m_toldMany M) i 1 (by omega) (by omega)) H.size) (cwV 2 hts gX5_rain_X5_of rfl rfl rfl (by decide +kernel) ⟨Nat.le_of_ble_eq_true rfl, Nat.le_of_ble_eq_true rfl⟩) (pcW_V hev hP hD (q0 := 0) rfl rfl rfl) rfl rfl hl.1 rfl (lv_room (Nat.le_of_ble_eq_true rfl)) dX5_rain_37 ⟨Nat.zero_le _, Nat.zero_le _⟩) hD hS hA moF (fun H locs hP hD hS => ?_)
          refine lv_eqi (y := ((zRa (m_z M) am i).1) (8 + 5 * i + 1)) rfl ?_
          refine lv_iload_n hx hb dX5_rain_40 rfl (lv_at hl 1 rfl) ?_
          refine lv_iadd hx hb dX5_rain_41 ?_
          refine lv_iload_n hx hb dX5_rain_42 rfl (lv_at hl 2 rfl) ?_
          refine lv_iadd hx hb dX5_rain_43 ?_
          refine lv_istore (lv' := [(4, .int (((((zRa (m_z M) am i).1) (8 + 5 * i + 1)) + am) + ((zRa (m_z M) am i).2))), (0, .ref h), (1, .int am), (2, .int ((zRa (m_z M) am i).2)), (3, .int (nI i))]) hx hb dX5_rain_44 hl (by decide) rfl (fun ls hl => ?_)
          refine lv_aload_n hx hb dX5_rain_46 rfl (lv_at hl 1 rfl) ?_
          refine lv_iload_n hx hb dX5_rain_47 rfl (lv_at hl 4 rfl) ?_
          refine lv_iconst (v := nI 0) hx hb dX5_rain_48 (by decide) ?_
          refine goIw (va_runV (As := [.int (nI i), .int (nI 0)]) (rest := []) ⟨hx, hb, hml, hown, hts⟩ (CtI.use (c_X5_of l G ca h a ((zRa (m_z M) am i).1, m_past M, m_states M, m_slots M, m_isSaved M, m_pad M, m_typed M, m_spot M, m_told M, m_toldMany M) i 0 (by omega) (by omega)) H.size) (cwV 2 hts gX5_rain_X5_of rfl rfl rfl (by decide +kernel) ⟨Nat.le_of_ble_eq_true rfl, Nat.le_of_ble_eq_true rfl⟩) (pcW_V hev hP hD (q0 := 0) rfl rfl rfl) rfl rfl hl.1 rfl (lv_room (Nat.le_of_ble_eq_true rfl)) dX5_rain_49 ⟨Nat.zero_le _, Nat.zero_le _⟩) hD hS hA moF (fun H locs hP hD hS => ?_)
          refine lv_eqi (y := ((zRa (m_z M) am i).1) (8 + 5 * i + 0)) rfl ?_
          refine lv_istore (lv' := [(5, .int (((zRa (m_z M) am i).1) (8 + 5 * i + 0))), (4, .int (((((zRa (m_z M) am i).1) (8 + 5 * i + 1)) + am) + ((zRa (m_z M) am i).2))), (0, .ref h), (1, .int am), (2, .int ((zRa (m_z M) am i).2)), (3, .int (nI i))]) hx hb dX5_rain_52 hl (by decide) rfl (fun ls hl => ?_)
          refine lv_aload_n hx hb dX5_rain_54 rfl (lv_at hl 2 rfl) ?_
          refine va_get (D := G) (ci := 5) (v := .ref (a 0)) (C := RX5) (T := TX5) (N := 10) hx hb hts in_wsX50 hown hev.1 hP 0 rfl rfl 0 (by decide) (hts (.fieldLink RX5 7 "PuddleMinistriesModel" "z" "[I") (List.mem_of_getElem? (i := 1) rfl)) (fun _ h9 => h9) rfl dX5_rain_55 ?_
          refine lv_iconst (v := nI 5) hx hb dX5_rain_58 (by decide) ?_
          refine lv_dup2_11 hx hb dX5_rain_59 rfl rfl ?_
          refine b_iald hx hb hev.1 hP 1 rfl rfl (j := 5) (by omega) (by decide) dX5_rain_60 ?_
          refine lv_iload_n hx hb dX5_rain_61 rfl (lv_at hl 3 rfl) ?_
          refine lv_iadd hx hb dX5_rain_62 ?_
          refine b_iast hx hb hev.1 hP hD hS 1 rfl rfl (j := 5) (by omega) (by decide) dX5_rain_63 (fun H locs hP hD hS => ?_)
          have hP : va_P G vwCl (moT ca h a (upd ((zRa (m_z M) am i).1) 5 ((((zRa (m_z M) am i).1) 5) + am), m_past M, m_states M, m_slots M, m_isSaved M, m_pad M, m_typed M, m_spot M, m_told M, m_toldMany M)) H := hP
          have hD : va_D A (moT ca h a (upd ((zRa (m_z M) am i).1) 5 ((((zRa (m_z M) am i).1) 5) + am), m_past M, m_states M, m_slots M, m_isSaved M, m_pad M, m_typed M, m_spot M, m_told M, m_toldMany M)) := hD
          refine lv_iload hx hb dX5_rain_64 (lv_at hl 1 rfl) ?_
          refine lv_iload hx hb dX5_rain_66 (lv_at hl 0 rfl) ?_
          refine lv_icmp_le (tgt := 79) hx hb dX5_rain_68 (by decide) (fun c_4 => ?_) (fun c_4 => ?_)
          · skip
            refine lv_iconst (v := 0) hx hb dX5_rain_79 (by decide) ?_
            refine lv_istore_n (lv' := [(2, .int 0), (5, .int (((zRa (m_z M) am i).1) (8 + 5 * i + 0))), (4, .int (((((zRa (m_z M) am i).1) (8 + 5 * i + 1)) + am) + ((zRa (m_z M) am i).2))), (0, .ref h), (1, .int am), (3, .int (nI i))]) hx hb dX5_rain_80 rfl hl (by decide) rfl (fun ls hl => ?_)
            refine lv_aload_n hx hb dX5_rain_81 rfl (lv_at hl 3 rfl) ?_
            refine lv_iload_n hx hb dX5_rain_82 rfl (lv_at hl 5 rfl) ?_
            refine lv_iconst (v := nI 1) hx hb dX5_rain_83 (by decide) ?_
            refine lv_iload hx hb dX5_rain_84 (lv_at hl 2 rfl) ?_
            refine lv_iload_n hx hb dX5_rain_86 rfl (lv_at hl 0 rfl) ?_
            refine lv_isub hx hb dX5_rain_87 ?_
            refine goVw (va_runV (As := [.int (nI i), .int (nI 1), .int ((((((zRa (m_z M) am i).1) (8 + 5 * i + 1)) + am) + ((zRa (m_z M) am i).2)) - 0)]) (rest := []) ⟨hx, hb, hml, hown, hts⟩ (CtV.use (c_X5_lay l G ca h a (upd ((zRa (m_z M) am i).1) 5 ((((zRa (m_z M) am i).1) 5) + am), m_past M, m_states M, m_slots M, m_isSaved M, m_pad M, m_typed M, m_spot M, m_told M, m_toldMany M) i 1 ((((((zRa (m_z M) am i).1) (8 + 5 * i + 1)) + am) + ((zRa (m_z M) am i).2)) - 0) (by omega) (by omega)) H.size) (cwV 3 hts gX5_rain_X5_lay rfl rfl rfl (by decide +kernel) ⟨Nat.le_of_ble_eq_true rfl, Nat.le_of_ble_eq_true rfl⟩) (pcW_V hev hP hD (q0 := 0) rfl rfl rfl) rfl rfl hl.1 rfl (lv_room (Nat.le_of_ble_eq_true rfl)) dX5_rain_88 ⟨Nat.zero_le _, Nat.zero_le _⟩) hD hS hA moF (fun H locs hP hD hS => ?_)
            refine lv_iinc (v := nI (i + 1)) (lv' := [(3, .int (nI (i + 1))), (2, .int 0), (5, .int (((zRa (m_z M) am i).1) (8 + 5 * i + 0))), (4, .int (((((zRa (m_z M) am i).1) (8 + 5 * i + 1)) + am) + ((zRa (m_z M) am i).2))), (0, .ref h), (1, .int am)]) hx hb dX5_rain_91 hl (k := 5) rfl (nI_1 _) (by decide) rfl (fun ls hl => ?_)
            refine lv_goto (tgt := 4) hx hb dX5_rain_94 (by decide) ?_
            exact ih (i + 1) (by omega) _ _ _ (by rw [show ((zRa (m_z M) am (i + 1)).1) = (upd ((upd ((zRa (m_z M) am i).1) 5 ((((zRa (m_z M) am i).1) 5) + am))) (8 + 5 * i + 1) ((((((zRa (m_z M) am i).1) (8 + 5 * i + 1)) + am) + ((zRa (m_z M) am i).2)) - 0)) from by rw [zRa_s, if_pos c_3, if_pos c_4]]; exact hP) (D_of hD moF) hS (by rw [show ((zRa (m_z M) am (i + 1)).2) = 0 from by rw [zRa_s, if_pos c_3, if_pos c_4]]; exact lv_sub hl [4, 5, 1, 0] rfl)
          · skip
            refine lv_iload hx hb dX5_rain_71 (lv_at hl 1 rfl) ?_
            refine lv_iload hx hb dX5_rain_73 (lv_at hl 0 rfl) ?_
            refine lv_isub hx hb dX5_rain_75 ?_
            refine lv_goto (tgt := 80) hx hb dX5_rain_76 (by decide) ?_
            refine lv_istore_n (lv' := [(2, .int ((((((zRa (m_z M) am i).1) (8 + 5 * i + 1)) + am) + ((zRa (m_z M) am i).2)) - (((zRa (m_z M) am i).1) (8 + 5 * i + 0)))), (5, .int (((zRa (m_z M) am i).1) (8 + 5 * i + 0))), (4, .int (((((zRa (m_z M) am i).1) (8 + 5 * i + 1)) + am) + ((zRa (m_z M) am i).2))), (0, .ref h), (1, .int am), (3, .int (nI i))]) hx hb dX5_rain_80 rfl hl (by decide) rfl (fun ls hl => ?_)
            refine lv_aload_n hx hb dX5_rain_81 rfl (lv_at hl 3 rfl) ?_
            refine lv_iload_n hx hb dX5_rain_82 rfl (lv_at hl 5 rfl) ?_
            refine lv_iconst (v := nI 1) hx hb dX5_rain_83 (by decide) ?_
            refine lv_iload hx hb dX5_rain_84 (lv_at hl 2 rfl) ?_
            refine lv_iload_n hx hb dX5_rain_86 rfl (lv_at hl 0 rfl) ?_
            refine lv_isub hx hb dX5_rain_87 ?_
            refine goVw (va_runV (As := [.int (nI i), .int (nI 1), .int ((((((zRa (m_z M) am i).1) (8 + 5 * i + 1)) + am) + ((zRa (m_z M) am i).2)) - ((((((zRa (m_z M) am i).1) (8 + 5 * i + 1)) + am) + ((zRa (m_z M) am i).2)) - (((zRa (m_z M) am i).1) (8 + 5 * i + 0))))]) (rest := []) ⟨hx, hb, hml, hown, hts⟩ (CtV.use (c_X5_lay l G ca h a (upd ((zRa (m_z M) am i).1) 5 ((((zRa (m_z M) am i).1) 5) + am), m_past M, m_states M, m_slots M, m_isSaved M, m_pad M, m_typed M, m_spot M, m_told M, m_toldMany M) i 1 ((((((zRa (m_z M) am i).1) (8 + 5 * i + 1)) + am) + ((zRa (m_z M) am i).2)) - ((((((zRa (m_z M) am i).1) (8 + 5 * i + 1)) + am) + ((zRa (m_z M) am i).2)) - (((zRa (m_z M) am i).1) (8 + 5 * i + 0)))) (by omega) (by omega)) H.size) (cwV 3 hts gX5_rain_X5_lay rfl rfl rfl (by decide +kernel) ⟨Nat.le_of_ble_eq_true rfl, Nat.le_of_ble_eq_true rfl⟩) (pcW_V hev hP hD (q0 := 0) rfl rfl rfl) rfl rfl hl.1 rfl (lv_room (Nat.le_of_ble_eq_true rfl)) dX5_rain_88 ⟨Nat.zero_le _, Nat.zero_le _⟩) hD hS hA moF (fun H locs hP hD hS => ?_)
            refine lv_iinc (v := nI (i + 1)) (lv' := [(3, .int (nI (i + 1))), (2, .int ((((((zRa (m_z M) am i).1) (8 + 5 * i + 1)) + am) + ((zRa (m_z M) am i).2)) - (((zRa (m_z M) am i).1) (8 + 5 * i + 0)))), (5, .int (((zRa (m_z M) am i).1) (8 + 5 * i + 0))), (4, .int (((((zRa (m_z M) am i).1) (8 + 5 * i + 1)) + am) + ((zRa (m_z M) am i).2))), (0, .ref h), (1, .int am)]) hx hb dX5_rain_91 hl (k := 5) rfl (nI_1 _) (by decide) rfl (fun ls hl => ?_)
            refine lv_goto (tgt := 4) hx hb dX5_rain_94 (by decide) ?_
            exact ih (i + 1) (by omega) _ _ _ (by rw [show ((zRa (m_z M) am (i + 1)).1) = (upd ((upd ((zRa (m_z M) am i).1) 5 ((((zRa (m_z M) am i).1) 5) + am))) (8 + 5 * i + 1) ((((((zRa (m_z M) am i).1) (8 + 5 * i + 1)) + am) + ((zRa (m_z M) am i).2)) - ((((((zRa (m_z M) am i).1) (8 + 5 * i + 1)) + am) + ((zRa (m_z M) am i).2)) - (((zRa (m_z M) am i).1) (8 + 5 * i + 0))))) from by rw [zRa_s, if_pos c_3, if_neg c_4]]; exact hP) (D_of hD moF) hS (by rw [show ((zRa (m_z M) am (i + 1)).2) = ((((((zRa (m_z M) am i).1) (8 + 5 * i + 1)) + am) + ((zRa (m_z M) am i).2)) - (((zRa (m_z M) am i).1) (8 + 5 * i + 0))) from by rw [zRa_s, if_pos c_3, if_neg c_4]]; exact lv_sub hl [4, 5, 1, 0] rfl)
        · skip
          refine lv_aload_n hx hb dX5_rain_18 rfl (lv_at hl 0 rfl) ?_
          refine va_get (D := G) (ci := 5) (v := .ref (a 0)) (C := RX5) (T := TX5) (N := 10) hx hb hts in_wsX50 hown hev.1 hP 0 rfl rfl 0 (by decide) (hts (.fieldLink RX5 7 "PuddleMinistriesModel" "z" "[I") (List.mem_of_getElem? (i := 1) rfl)) (fun _ h9 => h9) rfl dX5_rain_19 ?_
          refine lv_bipush (v := nI 7) hx hb dX5_rain_22 (by decide) ?_
          refine lv_dup2_11 hx hb dX5_rain_24 rfl rfl ?_
          refine b_iald hx hb hev.1 hP 1 rfl rfl (j := 7) (by omega) (by decide) dX5_rain_25 ?_
          refine lv_iload_n hx hb dX5_rain_26 rfl (lv_at hl 2 rfl) ?_
          refine lv_iadd hx hb dX5_rain_27 ?_
          refine b_iast hx hb hev.1 hP hD hS 1 rfl rfl (j := 7) (by omega) (by decide) dX5_rain_28 (fun H locs hP hD hS => ?_)
          have hP : va_P G vwCl (moT ca h a (upd ((zRa (m_z M) am i).1) 7 ((((zRa (m_z M) am i).1) 7) + ((zRa (m_z M) am i).2)), m_past M, m_states M, m_slots M, m_isSaved M, m_pad M, m_typed M, m_spot M, m_told M, m_toldMany M)) H := hP
          have hD : va_D A (moT ca h a (upd ((zRa (m_z M) am i).1) 7 ((((zRa (m_z M) am i).1) 7) + ((zRa (m_z M) am i).2)), m_past M, m_states M, m_slots M, m_isSaved M, m_pad M, m_typed M, m_spot M, m_told M, m_toldMany M)) := hD
          refine lv_iconst (v := 0) hx hb dX5_rain_29 (by decide) ?_
          refine lv_istore_n (lv' := [(2, .int 0), (0, .ref h), (1, .int am), (3, .int (nI i))]) hx hb dX5_rain_30 rfl hl (by decide) rfl (fun ls hl => ?_)
          refine lv_goto (tgt := 91) hx hb dX5_rain_31 (by decide) ?_
          refine lv_iinc (v := nI (i + 1)) (lv' := [(3, .int (nI (i + 1))), (2, .int 0), (0, .ref h), (1, .int am)]) hx hb dX5_rain_91 hl (k := 3) rfl (nI_1 _) (by decide) rfl (fun ls hl => ?_)
          refine lv_goto (tgt := 4) hx hb dX5_rain_94 (by decide) ?_
          exact ih (i + 1) (by omega) _ _ _ (by rw [show ((zRa (m_z M) am (i + 1)).1) = (upd ((zRa (m_z M) am i).1) 7 ((((zRa (m_z M) am i).1) 7) + ((zRa (m_z M) am i).2))) from by rw [zRa_s, if_neg c_3]]; exact hP) (D_of hD moF) hS (by rw [show ((zRa (m_z M) am (i + 1)).2) = 0 from by rw [zRa_s, if_neg c_3]]; exact lv_sub hl [2, 3, 1, 0] rfl)
  exact loop_4 n12 0 (by omega) _ _ _ hP (D_of hD moF) hS (lv_sub hl [2, 3, 1, 0] rfl)
set_option maxHeartbeats 4000000 in
set_option maxRecDepth 100000 in
theorem c_X5_frost (l : Launch) (G : va_G) (ca : Nat → ClassId) (h : Nat) (a : Nat → Nat) (M : MM) (n12 : Nat) (h12 : n12 = 12) : CtV l yX5_frost wsX5_frost ({ frames := 2, cells := 0, slots := 0, locals := 43 }) [.ref h] G ca (moT ca h a M) (moT ca h a (zFr (m_z M) n12, m_past M, m_states M, m_slots M, m_isSaved M, m_pad M, m_typed M, m_spot M, m_told M, m_toldMany M)) := by
  refine CtV.ofW (cc := cX5_frost) (maxL := 2) (by decide) rfl (Nat.le_of_ble_eq_true rfl) ?_
  intro pr en s m be me c A ls Q H hx hb hml hts hown hev hP hD hA hS hl hret
  have hown : s.vm.findClass RX5 = some m.cls := hown
  have hl : lv_has ls 2 [(0, .ref h)] := hl
  have in_wsX50 : ∀ w ∈ wsX50, w ∈ wsX5_frost := fun _ h => List.mem_cons_of_mem _ (List.mem_append_right _ h)
  refine lv_iconst (v := nI 0) hx hb dX5_frost_0 (by decide) ?_
  refine lv_istore_n (lv' := [(1, .int (nI 0)), (0, .ref h)]) hx hb dX5_frost_1 rfl hl (by decide) rfl (fun ls hl => ?_)
  have loop_2 : ∀ (n i : Nat), i + n = n12 → ∀ (H : Heap) (locs : List Loc) (ls : Array Slot), va_P G vwCl (moT ca h a (zFr (m_z M) i, m_past M, m_states M, m_slots M, m_isSaved M, m_pad M, m_typed M, m_spot M, m_told M, m_toldMany M)) H → va_D A (moT ca h a (zFr (m_z M) i, m_past M, m_states M, m_slots M, m_isSaved M, m_pad M, m_typed M, m_spot M, m_told M, m_toldMany M)) → va_S A s.heap H locs → lv_has ls 2 [(0, .ref h), (1, .int (nI i))] → W pr l en ({ frames := 2, cells := 0, slots := 0, locals := 43 } : Room) s m ([.ref h] : List Value).toArray be me c H locs 0 0 Q (F0 m 2 ls []) := by
    intro n
    induction n with
    | zero =>
      intro i hi H locs ls hP hD hS hl
      obtain rfl : n12 = i := by omega
      refine lv_iload_n hx hb dX5_frost_2 rfl (lv_at hl 1 rfl) ?_
      refine lv_bipush (v := nI 12) hx hb dX5_frost_3 (by decide) ?_
      refine lv_icmp_ge (tgt := 39) hx hb dX5_frost_5 (by decide) (fun c_1 => ?_) (fun c_1 => ?_)
      · skip
        exact hret _ _ _ _ hP hS dX5_frost_39
      · skip
        exact absurd (nI_le (by omega) (by omega)) c_1
    | succ n ih =>
      intro i hi H locs ls hP hD hS hl
      have hlt : i < n12 := by omega
      refine lv_iload_n hx hb dX5_frost_2 rfl (lv_at hl 1 rfl) ?_
      refine lv_bipush (v := nI 12) hx hb dX5_frost_3 (by decide) ?_
      refine lv_icmp_ge (tgt := 39) hx hb dX5_frost_5 (by decide) (fun c_2 => ?_) (fun c_2 => ?_)
      · skip
        exact absurd c_2 (nI_ge (by omega) (by omega))
      · skip
        refine lv_aload_n hx hb dX5_frost_8 rfl (lv_at hl 0 rfl) ?_
        refine lv_iload_n hx hb dX5_frost_9 rfl (lv_at hl 1 rfl) ?_
        refine lv_iconst (v := nI 2) hx hb dX5_frost_10 (by decide) ?_
        refine lv_aload_n hx hb dX5_frost_11 rfl (lv_at hl 0 rfl) ?_
        refine lv_iload_n hx hb dX5_frost_12 rfl (lv_at hl 1 rfl) ?_
        refine goIw (va_runV (As := [.int (nI i)]) (rest := [.int (nI 2), .int (nI i), .ref h]) ⟨hx, hb, hml, hown, hts⟩ (CtI.use (c_X5_depth l G ca h a (zFr (m_z M) i, m_past M, m_states M, m_slots M, m_isSaved M, m_pad M, m_typed M, m_spot M, m_told M, m_toldMany M) i (by omega)) H.size) (cwV 1 hts gX5_frost_X5_depth rfl rfl rfl (by decide +kernel) ⟨Nat.le_of_ble_eq_true rfl, Nat.le_of_ble_eq_true rfl⟩) (pcW_V hev hP hD (q0 := 0) rfl rfl rfl) rfl rfl hl.1 rfl (lv_room (Nat.le_of_ble_eq_true rfl)) dX5_frost_13 ⟨Nat.zero_le _, Nat.zero_le _⟩) hD hS hA moF (fun H locs hP hD hS => ?_)
        refine lv_eqi (y := (zFr (m_z M) i) (8 + 5 * i + 1) / 5) rfl ?_
        refine lv_iconst (v := 4) hx hb dX5_frost_16 (by decide) ?_
        refine lv_icmp_ge (tgt := 24) hx hb dX5_frost_17 (by decide) (fun c_3 => ?_) (fun c_3 => ?_)
        · skip
          refine lv_aload_n hx hb dX5_frost_24 rfl (lv_at hl 0 rfl) ?_
          refine lv_iload_n hx hb dX5_frost_25 rfl (lv_at hl 1 rfl) ?_
          refine lv_iconst (v := nI 2) hx hb dX5_frost_26 (by decide) ?_
          refine goIw (va_runV (As := [.int (nI i), .int (nI 2)]) (rest := [.int (nI 2), .int (nI i), .ref h]) ⟨hx, hb, hml, hown, hts⟩ (CtI.use (c_X5_of l G ca h a (zFr (m_z M) i, m_past M, m_states M, m_slots M, m_isSaved M, m_pad M, m_typed M, m_spot M, m_told M, m_toldMany M) i 2 (by omega) (by omega)) H.size) (cwV 2 hts gX5_frost_X5_of rfl rfl rfl (by decide +kernel) ⟨Nat.le_of_ble_eq_true rfl, Nat.le_of_ble_eq_true rfl⟩) (pcW_V hev hP hD (q0 := 0) rfl rfl rfl) rfl rfl hl.1 rfl (lv_room (Nat.le_of_ble_eq_true rfl)) dX5_frost_27 ⟨Nat.zero_le _, Nat.zero_le _⟩) hD hS hA moF (fun H locs hP hD hS => ?_)
          refine lv_eqi (y := (zFr (m_z M) i) (8 + 5 * i + 2)) rfl ?_
          refine goVw (va_runV (As := [.int (nI i), .int (nI 2), .int ((zFr (m_z M) i) (8 + 5 * i + 2))]) (rest := []) ⟨hx, hb, hml, hown, hts⟩ (CtV.use (c_X5_lay l G ca h a (zFr (m_z M) i, m_past M, m_states M, m_slots M, m_isSaved M, m_pad M, m_typed M, m_spot M, m_told M, m_toldMany M) i 2 ((zFr (m_z M) i) (8 + 5 * i + 2)) (by omega) (by omega)) H.size) (cwV 3 hts gX5_frost_X5_lay rfl rfl rfl (by decide +kernel) ⟨Nat.le_of_ble_eq_true rfl, Nat.le_of_ble_eq_true rfl⟩) (pcW_V hev hP hD (q0 := 0) rfl rfl rfl) rfl rfl hl.1 rfl (lv_room (Nat.le_of_ble_eq_true rfl)) dX5_frost_30 ⟨Nat.zero_le _, Nat.zero_le _⟩) hD hS hA moF (fun H locs hP hD hS => ?_)
          refine lv_iinc (v := nI (i + 1)) (lv' := [(1, .int (nI (i + 1))), (0, .ref h)]) hx hb dX5_frost_33 hl (k := 1) rfl (nI_1 _) (by decide) rfl (fun ls hl => ?_)
          refine lv_goto (tgt := 2) hx hb dX5_frost_36 (by decide) ?_
          exact ih (i + 1) (by omega) _ _ _ (by rw [show (zFr (m_z M) (i + 1)) = (upd ((zFr (m_z M) i)) (8 + 5 * i + 2) ((zFr (m_z M) i) (8 + 5 * i + 2))) from by rw [zFr_s, if_pos c_3]]; exact hP) (D_of hD moF) hS (lv_sub hl [1, 0] rfl)
        · skip
          refine lv_iconst (v := 1) hx hb dX5_frost_20 (by decide) ?_
          refine lv_goto (tgt := 30) hx hb dX5_frost_21 (by decide) ?_
          refine goVw (va_runV (As := [.int (nI i), .int (nI 2), .int 1]) (rest := []) ⟨hx, hb, hml, hown, hts⟩ (CtV.use (c_X5_lay l G ca h a (zFr (m_z M) i, m_past M, m_states M, m_slots M, m_isSaved M, m_pad M, m_typed M, m_spot M, m_told M, m_toldMany M) i 2 1 (by omega) (by omega)) H.size) (cwV 3 hts gX5_frost_X5_lay rfl rfl rfl (by decide +kernel) ⟨Nat.le_of_ble_eq_true rfl, Nat.le_of_ble_eq_true rfl⟩) (pcW_V hev hP hD (q0 := 0) rfl rfl rfl) rfl rfl hl.1 rfl (lv_room (Nat.le_of_ble_eq_true rfl)) dX5_frost_30 ⟨Nat.zero_le _, Nat.zero_le _⟩) hD hS hA moF (fun H locs hP hD hS => ?_)
          refine lv_iinc (v := nI (i + 1)) (lv' := [(1, .int (nI (i + 1))), (0, .ref h)]) hx hb dX5_frost_33 hl (k := 1) rfl (nI_1 _) (by decide) rfl (fun ls hl => ?_)
          refine lv_goto (tgt := 2) hx hb dX5_frost_36 (by decide) ?_
          exact ih (i + 1) (by omega) _ _ _ (by rw [show (zFr (m_z M) (i + 1)) = (upd ((zFr (m_z M) i)) (8 + 5 * i + 2) 1) from by rw [zFr_s, if_neg c_3]]; exact hP) (D_of hD moF) hS (lv_sub hl [1, 0] rfl)
  exact loop_2 n12 0 (by omega) _ _ _ hP (D_of hD moF) hS (lv_sub hl [1, 0] rfl)
set_option maxHeartbeats 4000000 in
set_option maxRecDepth 100000 in
theorem c_X5_endDay (l : Launch) (G : va_G) (ca : Nat → ClassId) (h : Nat) (a : Nat → Nat) (M : MM) (n12 : Nat) (n72 : Nat) (h12 : n12 = 12) (h72 : n72 = 72) : CtV l yX5_endDay wsX5_endDay ({ frames := 2, cells := 0, slots := 0, locals := 43 }) [.ref h] G ca (moT ca h a M) (moT ca h a (zEd (m_z M) n12 n72, m_past M, m_states M, m_slots M, m_isSaved M, m_pad M, m_typed M, m_spot M, m_told M, m_toldMany M)) := by
  refine CtV.ofW (cc := cX5_endDay) (maxL := 3) (by decide) rfl (Nat.le_of_ble_eq_true rfl) ?_
  intro pr en s m be me c A ls Q H hx hb hml hts hown hev hP hD hA hS hl hret
  have hown : s.vm.findClass RX5 = some m.cls := hown
  have hl : lv_has ls 3 [(0, .ref h)] := hl
  have in_wsX50 : ∀ w ∈ wsX50, w ∈ wsX5_endDay := fun _ h => List.mem_cons_of_mem _ (List.mem_append_right _ h)
  refine lv_iconst (v := nI 0) hx hb dX5_endDay_0 (by decide) ?_
  refine lv_istore_n (lv' := [(1, .int (nI 0)), (0, .ref h)]) hx hb dX5_endDay_1 rfl hl (by decide) rfl (fun ls hl => ?_)
  have loop_2 : ∀ (n i : Nat), i + n = n12 → ∀ (H : Heap) (locs : List Loc) (ls : Array Slot), va_P G vwCl (moT ca h a (zE1 (m_z M) i, m_past M, m_states M, m_slots M, m_isSaved M, m_pad M, m_typed M, m_spot M, m_told M, m_toldMany M)) H → va_D A (moT ca h a (zE1 (m_z M) i, m_past M, m_states M, m_slots M, m_isSaved M, m_pad M, m_typed M, m_spot M, m_told M, m_toldMany M)) → va_S A s.heap H locs → lv_has ls 3 [(0, .ref h), (1, .int (nI i))] → W pr l en ({ frames := 2, cells := 0, slots := 0, locals := 43 } : Room) s m ([.ref h] : List Value).toArray be me c H locs 0 0 Q (F0 m 2 ls []) := by
    intro n
    induction n with
    | zero =>
      intro i hi H locs ls hP hD hS hl
      obtain rfl : n12 = i := by omega
      refine lv_iload_n hx hb dX5_endDay_2 rfl (lv_at hl 1 rfl) ?_
      refine lv_bipush (v := nI 12) hx hb dX5_endDay_3 (by decide) ?_
      refine lv_icmp_ge (tgt := 58) hx hb dX5_endDay_5 (by decide) (fun c_1 => ?_) (fun c_1 => ?_)
      · skip
        refine lv_aload_n hx hb dX5_endDay_58 rfl (lv_at hl 0 rfl) ?_
        refine va_get (D := G) (ci := 5) (v := .ref (a 0)) (C := RX5) (T := TX5) (N := 10) hx hb hts in_wsX50 hown hev.1 hP 0 rfl rfl 0 (by decide) (hts (.fieldLink RX5 7 "PuddleMinistriesModel" "z" "[I") (List.mem_of_getElem? (i := 1) rfl)) (fun _ h9 => h9) rfl dX5_endDay_59 ?_
        refine lv_iconst (v := nI 4) hx hb dX5_endDay_62 (by decide) ?_
        refine lv_dup2_11 hx hb dX5_endDay_63 rfl rfl ?_
        refine b_iald hx hb hev.1 hP 1 rfl rfl (j := 4) (by omega) (by decide) dX5_endDay_64 ?_
        refine lv_iconst (v := 1) hx hb dX5_endDay_65 (by decide) ?_
        refine lv_iadd hx hb dX5_endDay_66 ?_
        refine b_iast hx hb hev.1 hP hD hS 1 rfl rfl (j := 4) (by omega) (by decide) dX5_endDay_67 (fun H locs hP hD hS => ?_)
        have hP : va_P G vwCl (moT ca h a (upd (zE1 (m_z M) n12) 4 (((zE1 (m_z M) n12) 4) + 1), m_past M, m_states M, m_slots M, m_isSaved M, m_pad M, m_typed M, m_spot M, m_told M, m_toldMany M)) H := hP
        have hD : va_D A (moT ca h a (upd (zE1 (m_z M) n12) 4 (((zE1 (m_z M) n12) 4) + 1), m_past M, m_states M, m_slots M, m_isSaved M, m_pad M, m_typed M, m_spot M, m_told M, m_toldMany M)) := hD
        refine lv_iconst (v := nI 0) hx hb dX5_endDay_68 (by decide) ?_
        refine lv_istore_n (lv' := [(1, .int (nI 0)), (0, .ref h)]) hx hb dX5_endDay_69 rfl hl (by decide) rfl (fun ls hl => ?_)
        have loop_70 : ∀ (n i : Nat), i + n = n72 → ∀ (H : Heap) (locs : List Loc) (ls : Array Slot), va_P G vwCl (moT ca h a (zE2 (upd (zE1 (m_z M) n12) 4 (zE1 (m_z M) n12 4 + 1)) i, m_past M, m_states M, m_slots M, m_isSaved M, m_pad M, m_typed M, m_spot M, m_told M, m_toldMany M)) H → va_D A (moT ca h a (zE2 (upd (zE1 (m_z M) n12) 4 (zE1 (m_z M) n12 4 + 1)) i, m_past M, m_states M, m_slots M, m_isSaved M, m_pad M, m_typed M, m_spot M, m_told M, m_toldMany M)) → va_S A s.heap H locs → lv_has ls 3 [(0, .ref h), (1, .int (nI i))] → W pr l en ({ frames := 2, cells := 0, slots := 0, locals := 43 } : Room) s m ([.ref h] : List Value).toArray be me c H locs 0 0 Q (F0 m 70 ls []) := by
          intro n
          induction n with
          | zero =>
            intro i hi H locs ls hP hD hS hl
            obtain rfl : n72 = i := by omega
            refine lv_iload_n hx hb dX5_endDay_70 rfl (lv_at hl 1 rfl) ?_
            refine lv_bipush (v := nI 72) hx hb dX5_endDay_71 (by decide) ?_
            refine lv_icmp_ge (tgt := 122) hx hb dX5_endDay_73 (by decide) (fun c_2 => ?_) (fun c_2 => ?_)
            · skip
              exact hret _ _ _ _ hP hS dX5_endDay_122
            · skip
              exact absurd (nI_le (by omega) (by omega)) c_2
          | succ n ih =>
            intro i hi H locs ls hP hD hS hl
            have hlt : i < n72 := by omega
            refine lv_iload_n hx hb dX5_endDay_70 rfl (lv_at hl 1 rfl) ?_
            refine lv_bipush (v := nI 72) hx hb dX5_endDay_71 (by decide) ?_
            refine lv_icmp_ge (tgt := 122) hx hb dX5_endDay_73 (by decide) (fun c_3 => ?_) (fun c_3 => ?_)
            · skip
              exact absurd c_3 (nI_ge (by omega) (by omega))
            · skip
              refine lv_aload_n hx hb dX5_endDay_76 rfl (lv_at hl 0 rfl) ?_
              refine va_get (D := G) (ci := 5) (v := .ref (a 0)) (C := RX5) (T := TX5) (N := 10) hx hb hts in_wsX50 hown hev.1 hP 0 rfl rfl 0 (by decide) (hts (.fieldLink RX5 7 "PuddleMinistriesModel" "z" "[I") (List.mem_of_getElem? (i := 1) rfl)) (fun _ h9 => h9) rfl dX5_endDay_77 ?_
              refine lv_bipush (v := nI 92) hx hb dX5_endDay_80 (by decide) ?_
              refine lv_iload_n hx hb dX5_endDay_82 rfl (lv_at hl 1 rfl) ?_
              refine lv_iadd hx hb dX5_endDay_83 ?_
              refine lv_eqi (nI_add _ _) ?_
              refine lv_dup2_11 hx hb dX5_endDay_84 rfl rfl ?_
              refine b_iald hx hb hev.1 hP 1 rfl rfl (j := (92 + i)) (by omega) (by decide) dX5_endDay_85 ?_
              refine lv_aload_n hx hb dX5_endDay_86 rfl (lv_at hl 0 rfl) ?_
              refine va_get (D := G) (ci := 5) (v := .ref (a 0)) (C := RX5) (T := TX5) (N := 10) hx hb hts in_wsX50 hown hev.1 hP 0 rfl rfl 0 (by decide) (hts (.fieldLink RX5 7 "PuddleMinistriesModel" "z" "[I") (List.mem_of_getElem? (i := 1) rfl)) (fun _ h9 => h9) rfl dX5_endDay_87 ?_
              refine lv_bipush (v := nI 92) hx hb dX5_endDay_90 (by decide) ?_
              refine lv_iload_n hx hb dX5_endDay_92 rfl (lv_at hl 1 rfl) ?_
              refine lv_iadd hx hb dX5_endDay_93 ?_
              refine lv_eqi (nI_add _ _) ?_
              refine b_iald hx hb hev.1 hP 1 rfl rfl (j := (92 + i)) (by omega) (by decide) dX5_endDay_94 ?_
              refine lv_if_le (tgt := 113) hx hb dX5_endDay_95 (by decide) (fun c_4 => ?_) (fun c_4 => ?_)
              · skip
                refine lv_iconst (v := 0) hx hb dX5_endDay_113 (by decide) ?_
                refine lv_isub hx hb dX5_endDay_114 ?_
                refine b_iast hx hb hev.1 hP hD hS 1 rfl rfl (j := (92 + i)) (by omega) (by decide) dX5_endDay_115 (fun H locs hP hD hS => ?_)
                have hP : va_P G vwCl (moT ca h a (upd (zE2 (upd (zE1 (m_z M) n12) 4 (zE1 (m_z M) n12 4 + 1)) i) (92 + i) (((zE2 (upd (zE1 (m_z M) n12) 4 (zE1 (m_z M) n12 4 + 1)) i) (92 + i)) - 0), m_past M, m_states M, m_slots M, m_isSaved M, m_pad M, m_typed M, m_spot M, m_told M, m_toldMany M)) H := hP
                have hD : va_D A (moT ca h a (upd (zE2 (upd (zE1 (m_z M) n12) 4 (zE1 (m_z M) n12 4 + 1)) i) (92 + i) (((zE2 (upd (zE1 (m_z M) n12) 4 (zE1 (m_z M) n12 4 + 1)) i) (92 + i)) - 0), m_past M, m_states M, m_slots M, m_isSaved M, m_pad M, m_typed M, m_spot M, m_told M, m_toldMany M)) := hD
                refine lv_iinc (v := nI (i + 1)) (lv' := [(1, .int (nI (i + 1))), (0, .ref h)]) hx hb dX5_endDay_116 hl (k := 1) rfl (nI_1 _) (by decide) rfl (fun ls hl => ?_)
                refine lv_goto (tgt := 70) hx hb dX5_endDay_119 (by decide) ?_
                exact ih (i + 1) (by omega) _ _ _ (by rw [show (zE2 (upd (zE1 (m_z M) n12) 4 (zE1 (m_z M) n12 4 + 1)) (i + 1)) = (upd (zE2 (upd (zE1 (m_z M) n12) 4 (zE1 (m_z M) n12 4 + 1)) i) (92 + i) (((zE2 (upd (zE1 (m_z M) n12) 4 (zE1 (m_z M) n12 4 + 1)) i) (92 + i)) - 0)) from by rw [zE2_s, if_pos c_4]]; exact hP) (D_of hD moF) hS (lv_sub hl [1, 0] rfl)
              · skip
                refine lv_aload_n hx hb dX5_endDay_98 rfl (lv_at hl 0 rfl) ?_
                refine lv_iload_n hx hb dX5_endDay_99 rfl (lv_at hl 1 rfl) ?_
                refine lv_bipush (v := nI 12) hx hb dX5_endDay_100 (by decide) ?_
                refine lv_irem hx hb dX5_endDay_102 (by decide) ?_
                refine lv_eqi (pk_rem (by omega) (by omega) (by omega)) ?_
                refine goIw (va_runV (As := [.int (nI (i % 12))]) (rest := [.int ((zE2 (upd (zE1 (m_z M) n12) 4 (zE1 (m_z M) n12 4 + 1)) i) (92 + i)), .int (nI (92 + i)), .ref (a 0)]) ⟨hx, hb, hml, hown, hts⟩ (CtI.use (c_X5_isFrozen l G ca h a (zE2 (upd (zE1 (m_z M) n12) 4 (zE1 (m_z M) n12 4 + 1)) i, m_past M, m_states M, m_slots M, m_isSaved M, m_pad M, m_typed M, m_spot M, m_told M, m_toldMany M) (i % 12) (by omega)) H.size) (cwV 1 hts gX5_endDay_X5_isFrozen rfl rfl rfl (by decide +kernel) ⟨Nat.le_of_ble_eq_true rfl, Nat.le_of_ble_eq_true rfl⟩) (pcW_V hev hP hD (q0 := 0) rfl rfl rfl) rfl rfl hl.1 rfl (lv_room (Nat.le_of_ble_eq_true rfl)) dX5_endDay_103 ⟨Nat.zero_le _, Nat.zero_le _⟩) hD hS hA moF (fun H locs hP hD hS => ?_)
                refine lv_eqi (y := zFz (zE2 (upd (zE1 (m_z M) n12) 4 (zE1 (m_z M) n12 4 + 1)) i) (i % 12)) rfl ?_
                refine lv_if_ne (tgt := 113) hx hb dX5_endDay_106 (by decide) (fun c_5 => ?_) (fun c_5 => ?_)
                · skip
                  refine lv_iconst (v := 0) hx hb dX5_endDay_113 (by decide) ?_
                  refine lv_isub hx hb dX5_endDay_114 ?_
                  refine b_iast hx hb hev.1 hP hD hS 1 rfl rfl (j := (92 + i)) (by omega) (by decide) dX5_endDay_115 (fun H locs hP hD hS => ?_)
                  have hP : va_P G vwCl (moT ca h a (upd (zE2 (upd (zE1 (m_z M) n12) 4 (zE1 (m_z M) n12 4 + 1)) i) (92 + i) (((zE2 (upd (zE1 (m_z M) n12) 4 (zE1 (m_z M) n12 4 + 1)) i) (92 + i)) - 0), m_past M, m_states M, m_slots M, m_isSaved M, m_pad M, m_typed M, m_spot M, m_told M, m_toldMany M)) H := hP
                  have hD : va_D A (moT ca h a (upd (zE2 (upd (zE1 (m_z M) n12) 4 (zE1 (m_z M) n12 4 + 1)) i) (92 + i) (((zE2 (upd (zE1 (m_z M) n12) 4 (zE1 (m_z M) n12 4 + 1)) i) (92 + i)) - 0), m_past M, m_states M, m_slots M, m_isSaved M, m_pad M, m_typed M, m_spot M, m_told M, m_toldMany M)) := hD
                  refine lv_iinc (v := nI (i + 1)) (lv' := [(1, .int (nI (i + 1))), (0, .ref h)]) hx hb dX5_endDay_116 hl (k := 1) rfl (nI_1 _) (by decide) rfl (fun ls hl => ?_)
                  refine lv_goto (tgt := 70) hx hb dX5_endDay_119 (by decide) ?_
                  exact ih (i + 1) (by omega) _ _ _ (by rw [show (zE2 (upd (zE1 (m_z M) n12) 4 (zE1 (m_z M) n12 4 + 1)) (i + 1)) = (upd (zE2 (upd (zE1 (m_z M) n12) 4 (zE1 (m_z M) n12 4 + 1)) i) (92 + i) (((zE2 (upd (zE1 (m_z M) n12) 4 (zE1 (m_z M) n12 4 + 1)) i) (92 + i)) - 0)) from by rw [zE2_s, if_neg c_4, if_neg c_5]]; exact hP) (D_of hD moF) hS (lv_sub hl [1, 0] rfl)
                · skip
                  refine lv_iconst (v := 1) hx hb dX5_endDay_109 (by decide) ?_
                  refine lv_goto (tgt := 114) hx hb dX5_endDay_110 (by decide) ?_
                  refine lv_isub hx hb dX5_endDay_114 ?_
                  refine b_iast hx hb hev.1 hP hD hS 1 rfl rfl (j := (92 + i)) (by omega) (by decide) dX5_endDay_115 (fun H locs hP hD hS => ?_)
                  have hP : va_P G vwCl (moT ca h a (upd (zE2 (upd (zE1 (m_z M) n12) 4 (zE1 (m_z M) n12 4 + 1)) i) (92 + i) (((zE2 (upd (zE1 (m_z M) n12) 4 (zE1 (m_z M) n12 4 + 1)) i) (92 + i)) - 1), m_past M, m_states M, m_slots M, m_isSaved M, m_pad M, m_typed M, m_spot M, m_told M, m_toldMany M)) H := hP
                  have hD : va_D A (moT ca h a (upd (zE2 (upd (zE1 (m_z M) n12) 4 (zE1 (m_z M) n12 4 + 1)) i) (92 + i) (((zE2 (upd (zE1 (m_z M) n12) 4 (zE1 (m_z M) n12 4 + 1)) i) (92 + i)) - 1), m_past M, m_states M, m_slots M, m_isSaved M, m_pad M, m_typed M, m_spot M, m_told M, m_toldMany M)) := hD
                  refine lv_iinc (v := nI (i + 1)) (lv' := [(1, .int (nI (i + 1))), (0, .ref h)]) hx hb dX5_endDay_116 hl (k := 1) rfl (nI_1 _) (by decide) rfl (fun ls hl => ?_)
                  refine lv_goto (tgt := 70) hx hb dX5_endDay_119 (by decide) ?_
                  exact ih (i + 1) (by omega) _ _ _ (by rw [show (zE2 (upd (zE1 (m_z M) n12) 4 (zE1 (m_z M) n12 4 + 1)) (i + 1)) = (upd (zE2 (upd (zE1 (m_z M) n12) 4 (zE1 (m_z M) n12 4 + 1)) i) (92 + i) (((zE2 (upd (zE1 (m_z M) n12) 4 (zE1 (m_z M) n12 4 + 1)) i) (92 + i)) - 1)) from by rw [zE2_s, if_neg c_4, if_pos c_5]]; exact hP) (D_of hD moF) hS (lv_sub hl [1, 0] rfl)
        exact loop_70 n72 0 (by omega) _ _ _ hP (D_of hD moF) hS (lv_sub hl [1, 0] rfl)
      · skip
        exact absurd (nI_le (by omega) (by omega)) c_1
    | succ n ih =>
      intro i hi H locs ls hP hD hS hl
      have hlt : i < n12 := by omega
      refine lv_iload_n hx hb dX5_endDay_2 rfl (lv_at hl 1 rfl) ?_
      refine lv_bipush (v := nI 12) hx hb dX5_endDay_3 (by decide) ?_
      refine lv_icmp_ge (tgt := 58) hx hb dX5_endDay_5 (by decide) (fun c_6 => ?_) (fun c_6 => ?_)
      · skip
        exact absurd c_6 (nI_ge (by omega) (by omega))
      · skip
        refine lv_aload_n hx hb dX5_endDay_8 rfl (lv_at hl 0 rfl) ?_
        refine lv_iload_n hx hb dX5_endDay_9 rfl (lv_at hl 1 rfl) ?_
        refine lv_iconst (v := nI 1) hx hb dX5_endDay_10 (by decide) ?_
        refine goIw (va_runV (As := [.int (nI i), .int (nI 1)]) (rest := []) ⟨hx, hb, hml, hown, hts⟩ (CtI.use (c_X5_of l G ca h a (zE1 (m_z M) i, m_past M, m_states M, m_slots M, m_isSaved M, m_pad M, m_typed M, m_spot M, m_told M, m_toldMany M) i 1 (by omega) (by omega)) H.size) (cwV 2 hts gX5_endDay_X5_of rfl rfl rfl (by decide +kernel) ⟨Nat.le_of_ble_eq_true rfl, Nat.le_of_ble_eq_true rfl⟩) (pcW_V hev hP hD (q0 := 0) rfl rfl rfl) rfl rfl hl.1 rfl (lv_room (Nat.le_of_ble_eq_true rfl)) dX5_endDay_11 ⟨Nat.zero_le _, Nat.zero_le _⟩) hD hS hA moF (fun H locs hP hD hS => ?_)
        refine lv_eqi (y := (zE1 (m_z M) i) (8 + 5 * i + 1)) rfl ?_
        refine lv_aload_n hx hb dX5_endDay_14 rfl (lv_at hl 0 rfl) ?_
        refine va_get (D := G) (ci := 5) (v := .ref (a 0)) (C := RX5) (T := TX5) (N := 10) hx hb hts in_wsX50 hown hev.1 hP 0 rfl rfl 0 (by decide) (hts (.fieldLink RX5 7 "PuddleMinistriesModel" "z" "[I") (List.mem_of_getElem? (i := 1) rfl)) (fun _ h9 => h9) rfl dX5_endDay_15 ?_
        refine lv_iconst (v := nI 2) hx hb dX5_endDay_18 (by decide) ?_
        refine b_iald hx hb hev.1 hP 1 rfl rfl (j := 2) (by omega) (by decide) dX5_endDay_19 ?_
        refine lv_icmp_lt (tgt := 35) hx hb dX5_endDay_20 (by decide) (fun c_7 => ?_) (fun c_7 => ?_)
        · skip
          refine lv_iconst (v := 0) hx hb dX5_endDay_35 (by decide) ?_
          refine lv_istore_n (lv' := [(2, .int 0), (0, .ref h), (1, .int (nI i))]) hx hb dX5_endDay_36 rfl hl (by decide) rfl (fun ls hl => ?_)
          refine lv_aload_n hx hb dX5_endDay_37 rfl (lv_at hl 1 rfl) ?_
          refine lv_iload_n hx hb dX5_endDay_38 rfl (lv_at hl 2 rfl) ?_
          refine lv_iconst (v := nI 3) hx hb dX5_endDay_39 (by decide) ?_
          refine lv_iload_n hx hb dX5_endDay_40 rfl (lv_at hl 0 rfl) ?_
          refine lv_if_eq (tgt := 48) hx hb dX5_endDay_41 (by decide) (fun c_8 => ?_) (fun c_8 => ?_)
          · skip
            refine lv_iconst (v := 0) hx hb dX5_endDay_48 (by decide) ?_
            refine goVw (va_runV (As := [.int (nI i), .int (nI 3), .int 0]) (rest := []) ⟨hx, hb, hml, hown, hts⟩ (CtV.use (c_X5_lay l G ca h a (zE1 (m_z M) i, m_past M, m_states M, m_slots M, m_isSaved M, m_pad M, m_typed M, m_spot M, m_told M, m_toldMany M) i 3 0 (by omega) (by omega)) H.size) (cwV 3 hts gX5_endDay_X5_lay rfl rfl rfl (by decide +kernel) ⟨Nat.le_of_ble_eq_true rfl, Nat.le_of_ble_eq_true rfl⟩) (pcW_V hev hP hD (q0 := 0) rfl rfl rfl) rfl rfl hl.1 rfl (lv_room (Nat.le_of_ble_eq_true rfl)) dX5_endDay_49 ⟨Nat.zero_le _, Nat.zero_le _⟩) hD hS hA moF (fun H locs hP hD hS => ?_)
            refine lv_iinc (v := nI (i + 1)) (lv' := [(1, .int (nI (i + 1))), (2, .int 0), (0, .ref h)]) hx hb dX5_endDay_52 hl (k := 2) rfl (nI_1 _) (by decide) rfl (fun ls hl => ?_)
            refine lv_goto (tgt := 2) hx hb dX5_endDay_55 (by decide) ?_
            exact ih (i + 1) (by omega) _ _ _ (by rw [show (zE1 (m_z M) (i + 1)) = (upd ((zE1 (m_z M) i)) (8 + 5 * i + 3) 0) from by rw [zE1_s, if_pos c_7]]; exact hP) (D_of hD moF) hS (lv_sub hl [2, 0] rfl)
          · skip
            exact absurd (by decide) c_8
        · skip
          refine lv_aload_n hx hb dX5_endDay_23 rfl (lv_at hl 0 rfl) ?_
          refine lv_iload_n hx hb dX5_endDay_24 rfl (lv_at hl 1 rfl) ?_
          refine goIw (va_runV (As := [.int (nI i)]) (rest := []) ⟨hx, hb, hml, hown, hts⟩ (CtI.use (c_X5_isFrozen l G ca h a (zE1 (m_z M) i, m_past M, m_states M, m_slots M, m_isSaved M, m_pad M, m_typed M, m_spot M, m_told M, m_toldMany M) i (by omega)) H.size) (cwV 1 hts gX5_endDay_X5_isFrozen rfl rfl rfl (by decide +kernel) ⟨Nat.le_of_ble_eq_true rfl, Nat.le_of_ble_eq_true rfl⟩) (pcW_V hev hP hD (q0 := 0) rfl rfl rfl) rfl rfl hl.1 rfl (lv_room (Nat.le_of_ble_eq_true rfl)) dX5_endDay_25 ⟨Nat.zero_le _, Nat.zero_le _⟩) hD hS hA moF (fun H locs hP hD hS => ?_)
          refine lv_eqi (y := zFz (zE1 (m_z M) i) i) rfl ?_
          refine lv_if_ne (tgt := 35) hx hb dX5_endDay_28 (by decide) (fun c_9 => ?_) (fun c_9 => ?_)
          · skip
            refine lv_iconst (v := 0) hx hb dX5_endDay_35 (by decide) ?_
            refine lv_istore_n (lv' := [(2, .int 0), (0, .ref h), (1, .int (nI i))]) hx hb dX5_endDay_36 rfl hl (by decide) rfl (fun ls hl => ?_)
            refine lv_aload_n hx hb dX5_endDay_37 rfl (lv_at hl 1 rfl) ?_
            refine lv_iload_n hx hb dX5_endDay_38 rfl (lv_at hl 2 rfl) ?_
            refine lv_iconst (v := nI 3) hx hb dX5_endDay_39 (by decide) ?_
            refine lv_iload_n hx hb dX5_endDay_40 rfl (lv_at hl 0 rfl) ?_
            refine lv_if_eq (tgt := 48) hx hb dX5_endDay_41 (by decide) (fun c_10 => ?_) (fun c_10 => ?_)
            · skip
              refine lv_iconst (v := 0) hx hb dX5_endDay_48 (by decide) ?_
              refine goVw (va_runV (As := [.int (nI i), .int (nI 3), .int 0]) (rest := []) ⟨hx, hb, hml, hown, hts⟩ (CtV.use (c_X5_lay l G ca h a (zE1 (m_z M) i, m_past M, m_states M, m_slots M, m_isSaved M, m_pad M, m_typed M, m_spot M, m_told M, m_toldMany M) i 3 0 (by omega) (by omega)) H.size) (cwV 3 hts gX5_endDay_X5_lay rfl rfl rfl (by decide +kernel) ⟨Nat.le_of_ble_eq_true rfl, Nat.le_of_ble_eq_true rfl⟩) (pcW_V hev hP hD (q0 := 0) rfl rfl rfl) rfl rfl hl.1 rfl (lv_room (Nat.le_of_ble_eq_true rfl)) dX5_endDay_49 ⟨Nat.zero_le _, Nat.zero_le _⟩) hD hS hA moF (fun H locs hP hD hS => ?_)
              refine lv_iinc (v := nI (i + 1)) (lv' := [(1, .int (nI (i + 1))), (2, .int 0), (0, .ref h)]) hx hb dX5_endDay_52 hl (k := 2) rfl (nI_1 _) (by decide) rfl (fun ls hl => ?_)
              refine lv_goto (tgt := 2) hx hb dX5_endDay_55 (by decide) ?_
              exact ih (i + 1) (by omega) _ _ _ (by rw [show (zE1 (m_z M) (i + 1)) = (upd ((zE1 (m_z M) i)) (8 + 5 * i + 3) 0) from by rw [zE1_s, if_neg c_7, if_neg c_9]]; exact hP) (D_of hD moF) hS (lv_sub hl [2, 0] rfl)
            · skip
              exact absurd (by decide) c_10
          · skip
            refine lv_iconst (v := 1) hx hb dX5_endDay_31 (by decide) ?_
            refine lv_goto (tgt := 36) hx hb dX5_endDay_32 (by decide) ?_
            refine lv_istore_n (lv' := [(2, .int 1), (0, .ref h), (1, .int (nI i))]) hx hb dX5_endDay_36 rfl hl (by decide) rfl (fun ls hl => ?_)
            refine lv_aload_n hx hb dX5_endDay_37 rfl (lv_at hl 1 rfl) ?_
            refine lv_iload_n hx hb dX5_endDay_38 rfl (lv_at hl 2 rfl) ?_
            refine lv_iconst (v := nI 3) hx hb dX5_endDay_39 (by decide) ?_
            refine lv_iload_n hx hb dX5_endDay_40 rfl (lv_at hl 0 rfl) ?_
            refine lv_if_eq (tgt := 48) hx hb dX5_endDay_41 (by decide) (fun c_11 => ?_) (fun c_11 => ?_)
            · skip
              exact absurd c_11 (by decide)
            · skip
              refine lv_iconst (v := 1) hx hb dX5_endDay_44 (by decide) ?_
              refine lv_goto (tgt := 49) hx hb dX5_endDay_45 (by decide) ?_
              refine goVw (va_runV (As := [.int (nI i), .int (nI 3), .int 1]) (rest := []) ⟨hx, hb, hml, hown, hts⟩ (CtV.use (c_X5_lay l G ca h a (zE1 (m_z M) i, m_past M, m_states M, m_slots M, m_isSaved M, m_pad M, m_typed M, m_spot M, m_told M, m_toldMany M) i 3 1 (by omega) (by omega)) H.size) (cwV 3 hts gX5_endDay_X5_lay rfl rfl rfl (by decide +kernel) ⟨Nat.le_of_ble_eq_true rfl, Nat.le_of_ble_eq_true rfl⟩) (pcW_V hev hP hD (q0 := 0) rfl rfl rfl) rfl rfl hl.1 rfl (lv_room (Nat.le_of_ble_eq_true rfl)) dX5_endDay_49 ⟨Nat.zero_le _, Nat.zero_le _⟩) hD hS hA moF (fun H locs hP hD hS => ?_)
              refine lv_iinc (v := nI (i + 1)) (lv' := [(1, .int (nI (i + 1))), (2, .int 1), (0, .ref h)]) hx hb dX5_endDay_52 hl (k := 2) rfl (nI_1 _) (by decide) rfl (fun ls hl => ?_)
              refine lv_goto (tgt := 2) hx hb dX5_endDay_55 (by decide) ?_
              exact ih (i + 1) (by omega) _ _ _ (by rw [show (zE1 (m_z M) (i + 1)) = (upd ((zE1 (m_z M) i)) (8 + 5 * i + 3) 1) from by rw [zE1_s, if_neg c_7, if_pos c_9]]; exact hP) (D_of hD moF) hS (lv_sub hl [2, 0] rfl)
  exact loop_2 n12 0 (by omega) _ _ _ hP (D_of hD moF) hS (lv_sub hl [1, 0] rfl)
def zLp (x : Int32) (z : Nat → Int32) (n12 n72 : Nat) : Nat → Int32 := if x = 0 then zSu z n12 else if 10 ≤ x then (if x = 10 then zFr z n12 else zEd z n12 n72) else upd (zRa z x n12).1 7 ((zRa z x n12).1 7 + (zRa z x n12).2)
set_option maxHeartbeats 4000000 in
set_option maxRecDepth 100000 in
theorem c_X5_passNow (l : Launch) (G : va_G) (ca : Nat → ClassId) (h : Nat) (a : Nat → Nat) (M : MM) (x : Int32) (n12 : Nat) (n72 : Nat) (h12 : n12 = 12) (h72 : n72 = 72) : CtV l yX5_passNow wsX5_passNow ({ frames := 3, cells := 0, slots := 0, locals := 68 }) [.ref h, .int x] G ca (moT ca h a M) (moT ca h a (zLp x (m_z M) n12 n72, m_past M, m_states M, m_slots M, m_isSaved M, m_pad M, m_typed M, m_spot M, m_told M, m_toldMany M)) := by
  refine CtV.ofW (cc := cX5_passNow) (maxL := 2) (by decide) rfl (Nat.le_of_ble_eq_true rfl) ?_
  intro pr en s m be me c A ls Q H hx hb hml hts hown hev hP hD hA hS hl hret
  have hown : s.vm.findClass RX5 = some m.cls := hown
  have hl : lv_has ls 2 [(0, .ref h), (1, .int x)] := hl
  have in_wsX50 : ∀ w ∈ wsX50, w ∈ wsX5_passNow := fun _ h => List.mem_cons_of_mem _ (List.mem_append_right _ h)
  refine lv_iload_n hx hb dX5_passNow_0 rfl (lv_at hl 1 rfl) ?_
  refine lv_if_ne (tgt := 11) hx hb dX5_passNow_1 (by decide) (fun c_1 => ?_) (fun c_1 => ?_)
  · skip
    refine lv_iload_n hx hb dX5_passNow_11 rfl (lv_at hl 1 rfl) ?_
    refine lv_bipush (v := 10) hx hb dX5_passNow_12 (by decide) ?_
    refine lv_icmp_ge (tgt := 25) hx hb dX5_passNow_14 (by decide) (fun c_2 => ?_) (fun c_2 => ?_)
    · skip
      refine lv_iload_n hx hb dX5_passNow_25 rfl (lv_at hl 1 rfl) ?_
      refine lv_bipush (v := 10) hx hb dX5_passNow_26 (by decide) ?_
      refine lv_icmp_ne (tgt := 38) hx hb dX5_passNow_28 (by decide) (fun c_3 => ?_) (fun c_3 => ?_)
      · skip
        refine lv_aload_n hx hb dX5_passNow_38 rfl (lv_at hl 0 rfl) ?_
        refine goVw (va_runV (As := []) (rest := []) ⟨hx, hb, hml, hown, hts⟩ (CtV.use (c_X5_endDay l G ca h a M n12 n72 h12 h72) H.size) (cwV 0 hts gX5_passNow_X5_endDay rfl rfl rfl (by decide +kernel) ⟨Nat.le_of_ble_eq_true rfl, Nat.le_of_ble_eq_true rfl⟩) (pcW_V hev hP hD (q0 := 0) rfl rfl rfl) rfl rfl hl.1 rfl (lv_room (Nat.le_of_ble_eq_true rfl)) dX5_passNow_39 ⟨Nat.zero_le _, Nat.zero_le _⟩) hD hS hA moF (fun H locs hP hD hS => ?_)
        have e_4 : (zLp x (m_z M) n12 n72) = (zEd ((m_z M)) n12 n72) := by rw [zLp, if_neg c_1, if_pos c_2, if_neg c_3]
        exact hret _ _ _ _ (by rw [e_4]; exact hP) hS dX5_passNow_42
      · skip
        refine lv_aload_n hx hb dX5_passNow_31 rfl (lv_at hl 0 rfl) ?_
        refine goVw (va_runV (As := []) (rest := []) ⟨hx, hb, hml, hown, hts⟩ (CtV.use (c_X5_frost l G ca h a M n12 h12) H.size) (cwV 0 hts gX5_passNow_X5_frost rfl rfl rfl (by decide +kernel) ⟨Nat.le_of_ble_eq_true rfl, Nat.le_of_ble_eq_true rfl⟩) (pcW_V hev hP hD (q0 := 0) rfl rfl rfl) rfl rfl hl.1 rfl (lv_room (Nat.le_of_ble_eq_true rfl)) dX5_passNow_32 ⟨Nat.zero_le _, Nat.zero_le _⟩) hD hS hA moF (fun H locs hP hD hS => ?_)
        refine lv_goto (tgt := 42) hx hb dX5_passNow_35 (by decide) ?_
        have e_5 : (zLp x (m_z M) n12 n72) = (zFr ((m_z M)) n12) := by rw [zLp, if_neg c_1, if_pos c_2, if_pos c_3]
        exact hret _ _ _ _ (by rw [e_5]; exact hP) hS dX5_passNow_42
    · skip
      refine lv_aload_n hx hb dX5_passNow_17 rfl (lv_at hl 0 rfl) ?_
      refine lv_iload_n hx hb dX5_passNow_18 rfl (lv_at hl 1 rfl) ?_
      refine goVw (va_runV (As := [.int x]) (rest := []) ⟨hx, hb, hml, hown, hts⟩ (CtV.use (c_X5_rain l G ca h a M x n12 h12) H.size) (cwV 1 hts gX5_passNow_X5_rain rfl rfl rfl (by decide +kernel) ⟨Nat.le_of_ble_eq_true rfl, Nat.le_of_ble_eq_true rfl⟩) (pcW_V hev hP hD (q0 := 0) rfl rfl rfl) rfl rfl hl.1 rfl (lv_room (Nat.le_of_ble_eq_true rfl)) dX5_passNow_19 ⟨Nat.zero_le _, Nat.zero_le _⟩) hD hS hA moF (fun H locs hP hD hS => ?_)
      refine lv_goto (tgt := 42) hx hb dX5_passNow_22 (by decide) ?_
      have e_6 : (zLp x (m_z M) n12 n72) = (upd (zRa ((m_z M)) x n12).1 7 ((zRa ((m_z M)) x n12).1 7 + (zRa ((m_z M)) x n12).2)) := by rw [zLp, if_neg c_1, if_neg c_2]
      exact hret _ _ _ _ (by rw [e_6]; exact hP) hS dX5_passNow_42
  · skip
    refine lv_aload_n hx hb dX5_passNow_4 rfl (lv_at hl 0 rfl) ?_
    refine goVw (va_runV (As := []) (rest := []) ⟨hx, hb, hml, hown, hts⟩ (CtV.use (c_X5_sun l G ca h a M n12 h12) H.size) (cwV 0 hts gX5_passNow_X5_sun rfl rfl rfl (by decide +kernel) ⟨Nat.le_of_ble_eq_true rfl, Nat.le_of_ble_eq_true rfl⟩) (pcW_V hev hP hD (q0 := 0) rfl rfl rfl) rfl rfl hl.1 rfl (lv_room (Nat.le_of_ble_eq_true rfl)) dX5_passNow_5 ⟨Nat.zero_le _, Nat.zero_le _⟩) hD hS hA moF (fun H locs hP hD hS => ?_)
    refine lv_goto (tgt := 42) hx hb dX5_passNow_8 (by decide) ?_
    have e_7 : (zLp x (m_z M) n12 n72) = (zSu ((m_z M)) n12) := by rw [zLp, if_pos c_1]
    exact hret _ _ _ _ (by rw [e_7]; exact hP) hS dX5_passNow_42
set_option maxHeartbeats 4000000 in
set_option maxRecDepth 100000 in
theorem c_X5_isValue_0 (l : Launch) (G : va_G) (ca : Nat → ClassId) (v : Int32) : CtI l yX5_isValue wsX5_isValue ({ frames := 1, cells := 0, slots := 0, locals := 22 }) [.int 0, .int v] G ca ([]) ([]) (inC v 0 20) := by
  refine CtI.ofW (cc := cX5_isValue) (maxL := 2) (rt := .boolean) (by decide) rfl (Nat.le_of_ble_eq_true rfl) (inC_nar _ _ _) ?_
  intro pr en s m be me c A ls Q H hx hb hml hts hown hev hP hD hA hS hl hret
  have hown : s.vm.findClass RX5 = some m.cls := hown
  have hl : lv_has ls 2 [(0, .int 0), (1, .int v)] := hl
  refine lv_iload_n hx hb dX5_isValue_0 rfl (lv_at hl 0 rfl) ?_
  refine lv_tableIn (off := 31) (tgt := 32) hx hb dX5_isValue_1 (by decide) (by decide) (by decide +kernel) (by decide) ?_
  refine lv_iload_n hx hb dX5_isValue_32 rfl (lv_at hl 1 rfl) ?_
  refine lv_iconst (v := 0) hx hb dX5_isValue_33 (by decide) ?_
  refine lv_bipush (v := 20) hx hb dX5_isValue_34 (by decide) ?_
  refine goI0 (va_runS (As := [.int v, .int 0, .int 20]) (rest := []) ⟨hx, hb, hml, hown, hts⟩ (CtI.use (c_X5_in l G ca v 0 20) H.size) (va_cwS 3 hts gX5_isValue_X5_in rfl rfl rfl (by decide +kernel) ⟨Nat.le_of_ble_eq_true rfl, Nat.le_of_ble_eq_true rfl⟩) (pcW_S hev P_nil (D_nil (A := A))) rfl rfl hl.1 rfl (lv_room (Nat.le_of_ble_eq_true rfl)) dX5_isValue_36 ⟨Nat.zero_le _, Nat.zero_le _⟩) hP hS hA (fun H locs hP hS => ?_)
  exact hret _ _ _ _ hP hS dX5_isValue_39
set_option maxHeartbeats 4000000 in
set_option maxRecDepth 100000 in
theorem c_X5_isValue_1 (l : Launch) (G : va_G) (ca : Nat → ClassId) (v : Int32) : CtI l yX5_isValue wsX5_isValue ({ frames := 1, cells := 0, slots := 0, locals := 22 }) [.int 1, .int v] G ca ([]) ([]) (inC v 0 20) := by
  refine CtI.ofW (cc := cX5_isValue) (maxL := 2) (rt := .boolean) (by decide) rfl (Nat.le_of_ble_eq_true rfl) (inC_nar _ _ _) ?_
  intro pr en s m be me c A ls Q H hx hb hml hts hown hev hP hD hA hS hl hret
  have hown : s.vm.findClass RX5 = some m.cls := hown
  have hl : lv_has ls 2 [(0, .int 1), (1, .int v)] := hl
  refine lv_iload_n hx hb dX5_isValue_0 rfl (lv_at hl 0 rfl) ?_
  refine lv_tableIn (off := 31) (tgt := 32) hx hb dX5_isValue_1 (by decide) (by decide) (by decide +kernel) (by decide) ?_
  refine lv_iload_n hx hb dX5_isValue_32 rfl (lv_at hl 1 rfl) ?_
  refine lv_iconst (v := 0) hx hb dX5_isValue_33 (by decide) ?_
  refine lv_bipush (v := 20) hx hb dX5_isValue_34 (by decide) ?_
  refine goI0 (va_runS (As := [.int v, .int 0, .int 20]) (rest := []) ⟨hx, hb, hml, hown, hts⟩ (CtI.use (c_X5_in l G ca v 0 20) H.size) (va_cwS 3 hts gX5_isValue_X5_in rfl rfl rfl (by decide +kernel) ⟨Nat.le_of_ble_eq_true rfl, Nat.le_of_ble_eq_true rfl⟩) (pcW_S hev P_nil (D_nil (A := A))) rfl rfl hl.1 rfl (lv_room (Nat.le_of_ble_eq_true rfl)) dX5_isValue_36 ⟨Nat.zero_le _, Nat.zero_le _⟩) hP hS hA (fun H locs hP hS => ?_)
  exact hret _ _ _ _ hP hS dX5_isValue_39
set_option maxHeartbeats 4000000 in
set_option maxRecDepth 100000 in
theorem c_X5_isValue_2 (l : Launch) (G : va_G) (ca : Nat → ClassId) (v : Int32) : CtI l yX5_isValue wsX5_isValue ({ frames := 1, cells := 0, slots := 0, locals := 22 }) [.int 2, .int v] G ca ([]) ([]) (inC v 1 99) := by
  refine CtI.ofW (cc := cX5_isValue) (maxL := 2) (rt := .boolean) (by decide) rfl (Nat.le_of_ble_eq_true rfl) (inC_nar _ _ _) ?_
  intro pr en s m be me c A ls Q H hx hb hml hts hown hev hP hD hA hS hl hret
  have hown : s.vm.findClass RX5 = some m.cls := hown
  have hl : lv_has ls 2 [(0, .int 2), (1, .int v)] := hl
  refine lv_iload_n hx hb dX5_isValue_0 rfl (lv_at hl 0 rfl) ?_
  refine lv_tableIn (off := 39) (tgt := 40) hx hb dX5_isValue_1 (by decide) (by decide) (by decide +kernel) (by decide) ?_
  refine lv_iload_n hx hb dX5_isValue_40 rfl (lv_at hl 1 rfl) ?_
  refine lv_iconst (v := 1) hx hb dX5_isValue_41 (by decide) ?_
  refine lv_bipush (v := 99) hx hb dX5_isValue_42 (by decide) ?_
  refine goI0 (va_runS (As := [.int v, .int 1, .int 99]) (rest := []) ⟨hx, hb, hml, hown, hts⟩ (CtI.use (c_X5_in l G ca v 1 99) H.size) (va_cwS 3 hts gX5_isValue_X5_in rfl rfl rfl (by decide +kernel) ⟨Nat.le_of_ble_eq_true rfl, Nat.le_of_ble_eq_true rfl⟩) (pcW_S hev P_nil (D_nil (A := A))) rfl rfl hl.1 rfl (lv_room (Nat.le_of_ble_eq_true rfl)) dX5_isValue_44 ⟨Nat.zero_le _, Nat.zero_le _⟩) hP hS hA (fun H locs hP hS => ?_)
  exact hret _ _ _ _ hP hS dX5_isValue_47
set_option maxHeartbeats 4000000 in
set_option maxRecDepth 100000 in
theorem c_X5_isValue_3 (l : Launch) (G : va_G) (ca : Nat → ClassId) (v : Int32) : CtI l yX5_isValue wsX5_isValue ({ frames := 1, cells := 0, slots := 0, locals := 22 }) [.int 3, .int v] G ca ([]) ([]) (inC v 1 30) := by
  refine CtI.ofW (cc := cX5_isValue) (maxL := 2) (rt := .boolean) (by decide) rfl (Nat.le_of_ble_eq_true rfl) (inC_nar _ _ _) ?_
  intro pr en s m be me c A ls Q H hx hb hml hts hown hev hP hD hA hS hl hret
  have hown : s.vm.findClass RX5 = some m.cls := hown
  have hl : lv_has ls 2 [(0, .int 3), (1, .int v)] := hl
  refine lv_iload_n hx hb dX5_isValue_0 rfl (lv_at hl 0 rfl) ?_
  refine lv_tableIn (off := 47) (tgt := 48) hx hb dX5_isValue_1 (by decide) (by decide) (by decide +kernel) (by decide) ?_
  refine lv_iload_n hx hb dX5_isValue_48 rfl (lv_at hl 1 rfl) ?_
  refine lv_iconst (v := 1) hx hb dX5_isValue_49 (by decide) ?_
  refine lv_bipush (v := 30) hx hb dX5_isValue_50 (by decide) ?_
  refine goI0 (va_runS (As := [.int v, .int 1, .int 30]) (rest := []) ⟨hx, hb, hml, hown, hts⟩ (CtI.use (c_X5_in l G ca v 1 30) H.size) (va_cwS 3 hts gX5_isValue_X5_in rfl rfl rfl (by decide +kernel) ⟨Nat.le_of_ble_eq_true rfl, Nat.le_of_ble_eq_true rfl⟩) (pcW_S hev P_nil (D_nil (A := A))) rfl rfl hl.1 rfl (lv_room (Nat.le_of_ble_eq_true rfl)) dX5_isValue_52 ⟨Nat.zero_le _, Nat.zero_le _⟩) hP hS hA (fun H locs hP hS => ?_)
  exact hret _ _ _ _ hP hS dX5_isValue_55
set_option maxHeartbeats 4000000 in
set_option maxRecDepth 100000 in
theorem c_X5_isValue_out (l : Launch) (G : va_G) (ca : Nat → ClassId) (x : Int32) (v : Int32) (hs : x.toInt < 0 ∨ 3 < x.toInt) : CtI l yX5_isValue wsX5_isValue ({ frames := 0, cells := 0, slots := 0, locals := 0 }) [.int x, .int v] G ca ([]) ([]) 0 := by
  refine CtI.ofW (cc := cX5_isValue) (maxL := 2) (rt := .boolean) (by decide) rfl (Nat.le_of_ble_eq_true rfl) (by first | rfl | (split <;> rfl)) ?_
  intro pr en s m be me c A ls Q H hx hb hml hts hown hev hP hD hA hS hl hret
  have hown : s.vm.findClass RX5 = some m.cls := hown
  have hl : lv_has ls 2 [(0, .int x), (1, .int v)] := hl
  refine lv_iload_n hx hb dX5_isValue_0 rfl (lv_at hl 0 rfl) ?_
  refine lv_tableOut (tgt := 56) hx hb dX5_isValue_1 hs (by decide) ?_
  refine lv_iconst (v := 0) hx hb dX5_isValue_56 (by decide) ?_
  exact hret _ _ _ _ hP hS dX5_isValue_57
def cpA (f : Nat → Int32) (A : Nat) (g : Nat → Int32) (B i : Nat) : Nat → Int32 := fun j => if B ≤ j ∧ j < B + i then f (A + (j - B)) else g j
theorem cpA_0 (f g : Nat → Int32) (A B : Nat) : cpA f A g B 0 = g := by
  funext j
  unfold cpA
  rw [if_neg (by omega)]
theorem cpA_s (f g : Nat → Int32) (A B i : Nat) : upd (cpA f A g B i) (B + i) (f (A + i)) = cpA f A g B (i + 1) := by
  funext j
  unfold upd cpA
  by_cases h : j = B + i
  · subst h; rw [if_pos rfl, if_pos (by omega)]; congr 1; omega
  · rw [if_neg h]
    by_cases h2 : B ≤ j ∧ j < B + i
    · rw [if_pos h2, if_pos (by omega)]
    · rw [if_neg h2, if_neg (by omega)]
set_option maxHeartbeats 4000000 in
set_option maxRecDepth 100000 in
theorem c_X5_copyState (l : Launch) (G : va_G) (ca : Nat → ClassId) (Wd : va_W) (q1 q2 o1 o2 n1 n2 : Nat) (f g : Nat → Int32) (B1 : Nat) (B2 : Nat) (h1 : Wd[q1]? = some (o1, .inl (ca 0, n1, .inl f))) (h2 : Wd[q2]? = some (o2, .inl (ca 0, n2, .inl g))) (hne : q1 ≠ q2) (hn1 : n1 < 2 ^ 31) (hn2 : n2 < 2 ^ 31) (hb1 : B1 + 164 ≤ n1) (hb2 : B2 + 164 ≤ n2) : CtV l yX5_copyState wsX5_copyState ({ frames := 0, cells := 0, slots := 0, locals := 0 }) [.ref o1, .int (nI B1), .ref o2, .int (nI B2)] G ca Wd (Wd.set q2 (o2, .inl (ca 0, n2, .inl (cpA f B1 g B2 164)))) := by
  refine CtV.ofW (cc := cX5_copyState) (maxL := 5) (by decide) rfl (Nat.le_of_ble_eq_true rfl) ?_
  intro pr en s m be me c A ls Q H hx hb hml hts hown hev hP hD hA hS hl hret
  have hown : s.vm.findClass RX5 = some m.cls := hown
  have hl : lv_has ls 5 [(0, .ref o1), (1, .int (nI B1)), (2, .ref o2), (3, .int (nI B2))] := hl
  have hP : va_P G vwCl (Wd.set q2 (o2, .inl (ca 0, n2, .inl (cpA f B1 g B2 0)))) H := by rw [cpA_0, set_same h2]; exact hP
  have hD : va_D A (Wd.set q2 (o2, .inl (ca 0, n2, .inl (cpA f B1 g B2 0)))) := by rw [cpA_0, set_same h2]; exact hD
  refine lv_iconst (v := nI 0) hx hb dX5_copyState_0 (by decide) ?_
  refine lv_istore (lv' := [(4, .int (nI 0)), (0, .ref o1), (1, .int (nI B1)), (2, .ref o2), (3, .int (nI B2))]) hx hb dX5_copyState_1 hl (by decide) rfl (fun ls hl => ?_)
  have loop_3 : ∀ (k i : Nat), i + k = 164 → ∀ (H : Heap) (locs : List Loc) (ls : Array Slot), va_P G vwCl (Wd.set q2 (o2, .inl (ca 0, n2, .inl (cpA f B1 g B2 i)))) H → va_D A (Wd.set q2 (o2, .inl (ca 0, n2, .inl (cpA f B1 g B2 i)))) → va_S A s.heap H locs → lv_has ls 5 [(0, .ref o1), (1, .int (nI B1)), (2, .ref o2), (3, .int (nI B2)), (4, .int (nI i))] → W pr l en ({ frames := 0, cells := 0, slots := 0, locals := 0 } : Room) s m ([.ref o1, .int (nI B1), .ref o2, .int (nI B2)] : List Value).toArray be me c H locs 0 0 Q (F0 m 3 ls []) := by
    intro k
    induction k with
    | zero =>
      intro i hi H locs ls hP hD hS hl
      obtain rfl : i = 164 := by omega
      have hl2 := (List.getElem?_eq_some_iff.mp h2).1
      have k1 : (Wd.set q2 (o2, .inl (ca 0, n2, .inl (cpA f B1 g B2 164))))[q1]? = some (o1, .inl (ca 0, n1, .inl f)) := by rw [List.getElem?_set_ne (Ne.symm hne)]; exact h1
      have k2 : (Wd.set q2 (o2, .inl (ca 0, n2, .inl (cpA f B1 g B2 164))))[q2]? = some (o2, .inl (ca 0, n2, .inl (cpA f B1 g B2 164))) := List.getElem?_set_self hl2
      refine lv_iload hx hb dX5_copyState_3 (lv_at hl 4 rfl) ?_
      refine lv_sipush (v := nI 164) hx hb dX5_copyState_5 (by decide) ?_
      refine lv_icmp_ge (tgt := 29) hx hb dX5_copyState_8 (by decide) (fun c_1 => ?_) (fun c_1 => ?_)
      · skip
        exact hret _ _ _ _ hP hS dX5_copyState_29
      · skip
        exact absurd (nI_le (by omega) (by omega)) c_1
    | succ k ih =>
      intro i hi H locs ls hP hD hS hl
      have hlt : i < 164 := by omega
      have hl2 := (List.getElem?_eq_some_iff.mp h2).1
      have k1 : (Wd.set q2 (o2, .inl (ca 0, n2, .inl (cpA f B1 g B2 i))))[q1]? = some (o1, .inl (ca 0, n1, .inl f)) := by rw [List.getElem?_set_ne (Ne.symm hne)]; exact h1
      have k2 : (Wd.set q2 (o2, .inl (ca 0, n2, .inl (cpA f B1 g B2 i))))[q2]? = some (o2, .inl (ca 0, n2, .inl (cpA f B1 g B2 i))) := List.getElem?_set_self hl2
      refine lv_iload hx hb dX5_copyState_3 (lv_at hl 4 rfl) ?_
      refine lv_sipush (v := nI 164) hx hb dX5_copyState_5 (by decide) ?_
      refine lv_icmp_ge (tgt := 29) hx hb dX5_copyState_8 (by decide) (fun c_2 => ?_) (fun c_2 => ?_)
      · skip
        exact absurd c_2 (nI_ge (by omega) (by omega))
      · skip
        refine lv_aload_n hx hb dX5_copyState_11 rfl (lv_at hl 2 rfl) ?_
        refine lv_iload_n hx hb dX5_copyState_12 rfl (lv_at hl 3 rfl) ?_
        refine lv_iload hx hb dX5_copyState_13 (lv_at hl 4 rfl) ?_
        refine lv_iadd hx hb dX5_copyState_15 ?_
        refine lv_eqi (nI_add _ _) ?_
        refine lv_aload_n hx hb dX5_copyState_16 rfl (lv_at hl 0 rfl) ?_
        refine lv_iload_n hx hb dX5_copyState_17 rfl (lv_at hl 1 rfl) ?_
        refine lv_iload hx hb dX5_copyState_18 (lv_at hl 4 rfl) ?_
        refine lv_iadd hx hb dX5_copyState_20 ?_
        refine lv_eqi (nI_add _ _) ?_
        refine b_iald hx hb hev.1 hP q1 k1 rfl (j := (B1 + i)) (by omega) (by omega) dX5_copyState_21 ?_
        refine b_iast hx hb hev.1 hP hD hS q2 k2 rfl (j := (B2 + i)) (by omega) (by omega) dX5_copyState_22 (fun H locs hP hD hS => ?_)
        rw [List.set_set, cpA_s] at hP hD
        refine lv_iinc (v := nI (i + 1)) (lv' := [(4, .int (nI (i + 1))), (0, .ref o1), (1, .int (nI B1)), (2, .ref o2), (3, .int (nI B2))]) hx hb dX5_copyState_23 hl (k := 4) rfl (nI_1 _) (by decide) rfl (fun ls hl => ?_)
        refine lv_goto (tgt := 3) hx hb dX5_copyState_26 (by decide) ?_
        exact ih (i + 1) (by omega) _ _ _ hP (D_of hD rfl) hS (lv_sub hl [1, 2, 3, 4, 0] rfl)
  exact loop_3 164 0 (by omega) _ _ _ hP (D_of hD rfl) hS (lv_sub hl [1, 2, 3, 4, 0] rfl)
def shP (g : Nat → Int32) : Nat → (Nat → Int32) | 0 => g | i + 1 => upd (shP g i) i (shP g i (i + 164))
set_option maxHeartbeats 4000000 in
set_option maxRecDepth 100000 in
theorem c_X5_record_lt (l : Launch) (G : va_G) (ca : Nat → ClassId) (h : Nat) (a : Nat → Nat) (M : MM) (k : Nat) (hst : m_states M = nI k) (hk : k < 6) : CtV l yX5_record wsX5_record ({ frames := 1, cells := 0, slots := 0, locals := 24 }) [.ref h] G ca (moT ca h a M) (moT ca h a (m_z M, cpA (m_z M) 0 (m_past M) (164 * k) 164, nI (k + 1), m_slots M, m_isSaved M, m_pad M, m_typed M, m_spot M, m_told M, m_toldMany M)) := by
  refine CtV.ofW (cc := cX5_record) (maxL := 2) (by decide) rfl (Nat.le_of_ble_eq_true rfl) ?_
  intro pr en s m be me c A ls Q H hx hb hml hts hown hev hP hD hA hS hl hret
  have hown : s.vm.findClass RX5 = some m.cls := hown
  have hl : lv_has ls 2 [(0, .ref h)] := hl
  have in_wsX50 : ∀ w ∈ wsX50, w ∈ wsX5_record := fun _ h => List.mem_cons_of_mem _ (List.mem_append_right _ h)
  refine lv_aload_n hx hb dX5_record_0 rfl (lv_at hl 0 rfl) ?_
  refine va_get (D := G) (ci := 5) (v := .int (m_states M)) (C := RX5) (T := TX5) (N := 10) hx hb hts in_wsX50 hown hev.1 hP 0 rfl rfl 2 (by decide) (hts (.fieldLink RX5 41 "PuddleMinistriesModel" "states" "I") (List.mem_of_getElem? (i := 1) rfl)) (fun _ h9 => h9) rfl dX5_record_1 ?_
  refine lv_eqi hst ?_
  refine lv_bipush (v := nI 6) hx hb dX5_record_4 (by decide) ?_
  refine lv_icmp_ne (tgt := 50) hx hb dX5_record_6 (by decide) (fun c_1 => ?_) (fun c_1 => ?_)
  · skip
    refine lv_aload_n hx hb dX5_record_50 rfl (lv_at hl 0 rfl) ?_
    refine va_get (D := G) (ci := 5) (v := .ref (a 0)) (C := RX5) (T := TX5) (N := 10) hx hb hts in_wsX50 hown hev.1 hP 0 rfl rfl 0 (by decide) (hts (.fieldLink RX5 7 "PuddleMinistriesModel" "z" "[I") (List.mem_of_getElem? (i := 3) rfl)) (fun _ h9 => h9) rfl dX5_record_51 ?_
    refine lv_iconst (v := nI 0) hx hb dX5_record_54 (by decide) ?_
    refine lv_aload_n hx hb dX5_record_55 rfl (lv_at hl 0 rfl) ?_
    refine va_get (D := G) (ci := 5) (v := .ref (a 1)) (C := RX5) (T := TX5) (N := 10) hx hb hts in_wsX50 hown hev.1 hP 0 rfl rfl 1 (by decide) (hts (.fieldLink RX5 13 "PuddleMinistriesModel" "past" "[I") (List.mem_of_getElem? (i := 2) rfl)) (fun _ h9 => h9) rfl dX5_record_56 ?_
    refine lv_sipush (v := nI 164) hx hb dX5_record_59 (by decide) ?_
    refine lv_aload_n hx hb dX5_record_62 rfl (lv_at hl 0 rfl) ?_
    refine va_get (D := G) (ci := 5) (v := .int (m_states M)) (C := RX5) (T := TX5) (N := 10) hx hb hts in_wsX50 hown hev.1 hP 0 rfl rfl 2 (by decide) (hts (.fieldLink RX5 41 "PuddleMinistriesModel" "states" "I") (List.mem_of_getElem? (i := 1) rfl)) (fun _ h9 => h9) rfl dX5_record_63 ?_
    refine lv_eqi hst ?_
    refine lv_imul hx hb dX5_record_66 ?_
    refine lv_eqi (pk_mul _ _) ?_
    refine goVw (va_runS (As := [.ref (a 0), .int (nI 0), .ref (a 1), .int (nI (164 * k))]) (rest := []) ⟨hx, hb, hml, hown, hts⟩ (CtV.use (c_X5_copyState l G ca (moT ca h a M) 1 2 (a 0) (a 1) 164 984 (m_z M) (m_past M) 0 (164 * k) rfl rfl (by decide) (by decide) (by decide) (by omega) (by omega)) H.size) (va_cwS 4 hts gX5_record_X5_copyState rfl rfl rfl (by decide +kernel) ⟨Nat.le_of_ble_eq_true rfl, Nat.le_of_ble_eq_true rfl⟩) (pcW_S hev hP hD) rfl rfl hl.1 rfl (lv_room (Nat.le_of_ble_eq_true rfl)) dX5_record_67 ⟨Nat.zero_le _, Nat.zero_le _⟩) hD hS hA rfl (fun H locs hP hD hS => ?_)
    have hP : va_P G vwCl (moT ca h a (m_z M, cpA (m_z M) 0 (m_past M) (164 * k) 164, m_states M, m_slots M, m_isSaved M, m_pad M, m_typed M, m_spot M, m_told M, m_toldMany M)) H := hP
    have hD : va_D A (moT ca h a (m_z M, cpA (m_z M) 0 (m_past M) (164 * k) 164, m_states M, m_slots M, m_isSaved M, m_pad M, m_typed M, m_spot M, m_told M, m_toldMany M)) := hD
    refine lv_aload_n hx hb dX5_record_70 rfl (lv_at hl 0 rfl) ?_
    refine lv_dup hx hb dX5_record_71 rfl ?_
    refine va_get (D := G) (ci := 5) (v := .int (m_states M)) (C := RX5) (T := TX5) (N := 10) hx hb hts in_wsX50 hown hev.1 hP 0 rfl rfl 2 (by decide) (hts (.fieldLink RX5 41 "PuddleMinistriesModel" "states" "I") (List.mem_of_getElem? (i := 1) rfl)) (fun _ h9 => h9) rfl dX5_record_72 ?_
    refine lv_eqi hst ?_
    refine lv_iconst (v := nI 1) hx hb dX5_record_75 (by decide) ?_
    refine lv_iadd hx hb dX5_record_76 ?_
    refine lv_eqi (nI_add _ _) ?_
    refine va_put (D := G) (ci := 5) (v := .int (nI (k + 1))) (ty := .int) (C := RX5) (T := TX5) (N := 10) hx hb hts in_wsX50 tyX5 tyX5_ok nmX5 hown hev.1 hP hD hS 0 rfl rfl 2 (by decide) (hts (.fieldLink RX5 41 "PuddleMinistriesModel" "states" "I") (List.mem_of_getElem? (i := 1) rfl)) (fun _ h9 => h9) rfl (by decide +kernel) rfl rfl (Nat.le_of_ble_eq_true rfl) dX5_record_77 (fun H locs hP hD hS => ?_)
    have hP : va_P G vwCl (moT ca h a (m_z M, cpA (m_z M) 0 (m_past M) (164 * k) 164, nI (k + 1), m_slots M, m_isSaved M, m_pad M, m_typed M, m_spot M, m_told M, m_toldMany M)) H := hP
    have hD : va_D A (moT ca h a (m_z M, cpA (m_z M) 0 (m_past M) (164 * k) 164, nI (k + 1), m_slots M, m_isSaved M, m_pad M, m_typed M, m_spot M, m_told M, m_toldMany M)) := hD
    exact hret _ _ _ _ hP hS dX5_record_80
  · skip
    exact absurd ((nI_eq (by omega) (by omega)).mp c_1) (by omega)
set_option maxHeartbeats 4000000 in
set_option maxRecDepth 100000 in
theorem c_X5_record_eq (l : Launch) (G : va_G) (ca : Nat → ClassId) (h : Nat) (a : Nat → Nat) (M : MM) (n820 : Nat) (hst : m_states M = nI 6) (h820 : n820 = 820) : CtV l yX5_record wsX5_record ({ frames := 1, cells := 0, slots := 0, locals := 24 }) [.ref h] G ca (moT ca h a M) (moT ca h a (m_z M, cpA (m_z M) 0 (shP (m_past M) n820) 820 164, nI 6, m_slots M, m_isSaved M, m_pad M, m_typed M, m_spot M, m_told M, m_toldMany M)) := by
  refine CtV.ofW (cc := cX5_record) (maxL := 2) (by decide) rfl (Nat.le_of_ble_eq_true rfl) ?_
  intro pr en s m be me c A ls Q H hx hb hml hts hown hev hP hD hA hS hl hret
  have hown : s.vm.findClass RX5 = some m.cls := hown
  have hl : lv_has ls 2 [(0, .ref h)] := hl
  have in_wsX50 : ∀ w ∈ wsX50, w ∈ wsX5_record := fun _ h => List.mem_cons_of_mem _ (List.mem_append_right _ h)
  refine lv_aload_n hx hb dX5_record_0 rfl (lv_at hl 0 rfl) ?_
  refine va_get (D := G) (ci := 5) (v := .int (m_states M)) (C := RX5) (T := TX5) (N := 10) hx hb hts in_wsX50 hown hev.1 hP 0 rfl rfl 2 (by decide) (hts (.fieldLink RX5 41 "PuddleMinistriesModel" "states" "I") (List.mem_of_getElem? (i := 1) rfl)) (fun _ h9 => h9) rfl dX5_record_1 ?_
  refine lv_eqi hst ?_
  refine lv_bipush (v := nI 6) hx hb dX5_record_4 (by decide) ?_
  refine lv_icmp_ne (tgt := 50) hx hb dX5_record_6 (by decide) (fun c_1 => ?_) (fun c_1 => ?_)
  · skip
    exact absurd ((nI_eq (by omega) (by omega)).mpr (by omega)) c_1
  · skip
    refine lv_iconst (v := nI 0) hx hb dX5_record_9 (by decide) ?_
    refine lv_istore_n (lv' := [(1, .int (nI 0)), (0, .ref h)]) hx hb dX5_record_10 rfl hl (by decide) rfl (fun ls hl => ?_)
    have loop_11 : ∀ (n i : Nat), i + n = n820 → ∀ (H : Heap) (locs : List Loc) (ls : Array Slot), va_P G vwCl (moT ca h a (m_z M, shP (m_past M) i, m_states M, m_slots M, m_isSaved M, m_pad M, m_typed M, m_spot M, m_told M, m_toldMany M)) H → va_D A (moT ca h a (m_z M, shP (m_past M) i, m_states M, m_slots M, m_isSaved M, m_pad M, m_typed M, m_spot M, m_told M, m_toldMany M)) → va_S A s.heap H locs → lv_has ls 2 [(0, .ref h), (1, .int (nI i))] → W pr l en ({ frames := 1, cells := 0, slots := 0, locals := 24 } : Room) s m ([.ref h] : List Value).toArray be me c H locs 0 0 Q (F0 m 11 ls []) := by
      intro n
      induction n with
      | zero =>
        intro i hi H locs ls hP hD hS hl
        obtain rfl : n820 = i := by omega
        refine lv_iload_n hx hb dX5_record_11 rfl (lv_at hl 1 rfl) ?_
        refine lv_sipush (v := nI 820) hx hb dX5_record_12 (by decide) ?_
        refine lv_icmp_ge (tgt := 40) hx hb dX5_record_15 (by decide) (fun c_2 => ?_) (fun c_2 => ?_)
        · skip
          refine lv_aload_n hx hb dX5_record_40 rfl (lv_at hl 0 rfl) ?_
          refine lv_dup hx hb dX5_record_41 rfl ?_
          refine va_get (D := G) (ci := 5) (v := .int (m_states M)) (C := RX5) (T := TX5) (N := 10) hx hb hts in_wsX50 hown hev.1 hP 0 rfl rfl 2 (by decide) (hts (.fieldLink RX5 41 "PuddleMinistriesModel" "states" "I") (List.mem_of_getElem? (i := 1) rfl)) (fun _ h9 => h9) rfl dX5_record_42 ?_
          refine lv_eqi hst ?_
          refine lv_iconst (v := nI 1) hx hb dX5_record_45 (by decide) ?_
          refine lv_isub hx hb dX5_record_46 ?_
          refine lv_eqi (pk_sub (by omega)) ?_
          refine va_put (D := G) (ci := 5) (v := .int (nI (6 - 1))) (ty := .int) (C := RX5) (T := TX5) (N := 10) hx hb hts in_wsX50 tyX5 tyX5_ok nmX5 hown hev.1 hP hD hS 0 rfl rfl 2 (by decide) (hts (.fieldLink RX5 41 "PuddleMinistriesModel" "states" "I") (List.mem_of_getElem? (i := 1) rfl)) (fun _ h9 => h9) rfl (by decide +kernel) rfl rfl (Nat.le_of_ble_eq_true rfl) dX5_record_47 (fun H locs hP hD hS => ?_)
          have hP : va_P G vwCl (moT ca h a (m_z M, shP (m_past M) n820, nI (6 - 1), m_slots M, m_isSaved M, m_pad M, m_typed M, m_spot M, m_told M, m_toldMany M)) H := hP
          have hD : va_D A (moT ca h a (m_z M, shP (m_past M) n820, nI (6 - 1), m_slots M, m_isSaved M, m_pad M, m_typed M, m_spot M, m_told M, m_toldMany M)) := hD
          refine lv_aload_n hx hb dX5_record_50 rfl (lv_at hl 0 rfl) ?_
          refine va_get (D := G) (ci := 5) (v := .ref (a 0)) (C := RX5) (T := TX5) (N := 10) hx hb hts in_wsX50 hown hev.1 hP 0 rfl rfl 0 (by decide) (hts (.fieldLink RX5 7 "PuddleMinistriesModel" "z" "[I") (List.mem_of_getElem? (i := 3) rfl)) (fun _ h9 => h9) rfl dX5_record_51 ?_
          refine lv_iconst (v := nI 0) hx hb dX5_record_54 (by decide) ?_
          refine lv_aload_n hx hb dX5_record_55 rfl (lv_at hl 0 rfl) ?_
          refine va_get (D := G) (ci := 5) (v := .ref (a 1)) (C := RX5) (T := TX5) (N := 10) hx hb hts in_wsX50 hown hev.1 hP 0 rfl rfl 1 (by decide) (hts (.fieldLink RX5 13 "PuddleMinistriesModel" "past" "[I") (List.mem_of_getElem? (i := 2) rfl)) (fun _ h9 => h9) rfl dX5_record_56 ?_
          refine lv_sipush (v := nI 164) hx hb dX5_record_59 (by decide) ?_
          refine lv_aload_n hx hb dX5_record_62 rfl (lv_at hl 0 rfl) ?_
          refine va_get (D := G) (ci := 5) (v := .int (nI (6 - 1))) (C := RX5) (T := TX5) (N := 10) hx hb hts in_wsX50 hown hev.1 hP 0 rfl rfl 2 (by decide) (hts (.fieldLink RX5 41 "PuddleMinistriesModel" "states" "I") (List.mem_of_getElem? (i := 1) rfl)) (fun _ h9 => h9) rfl dX5_record_63 ?_
          refine lv_imul hx hb dX5_record_66 ?_
          refine lv_eqi (pk_mul _ _) ?_
          refine goVw (va_runS (As := [.ref (a 0), .int (nI 0), .ref (a 1), .int (nI (164 * (6 - 1)))]) (rest := []) ⟨hx, hb, hml, hown, hts⟩ (CtV.use (c_X5_copyState l G ca (moT ca h a (m_z M, shP (m_past M) n820, nI (6 - 1), m_slots M, m_isSaved M, m_pad M, m_typed M, m_spot M, m_told M, m_toldMany M)) 1 2 (a 0) (a 1) 164 984 (m_z M) (shP (m_past M) n820) 0 (164 * (6 - 1)) rfl rfl (by decide) (by decide) (by decide) (by omega) (by omega)) H.size) (va_cwS 4 hts gX5_record_X5_copyState rfl rfl rfl (by decide +kernel) ⟨Nat.le_of_ble_eq_true rfl, Nat.le_of_ble_eq_true rfl⟩) (pcW_S hev hP hD) rfl rfl hl.1 rfl (lv_room (Nat.le_of_ble_eq_true rfl)) dX5_record_67 ⟨Nat.zero_le _, Nat.zero_le _⟩) hD hS hA rfl (fun H locs hP hD hS => ?_)
          have hP : va_P G vwCl (moT ca h a (m_z M, cpA (m_z M) 0 (shP (m_past M) n820) (164 * (6 - 1)) 164, nI (6 - 1), m_slots M, m_isSaved M, m_pad M, m_typed M, m_spot M, m_told M, m_toldMany M)) H := hP
          have hD : va_D A (moT ca h a (m_z M, cpA (m_z M) 0 (shP (m_past M) n820) (164 * (6 - 1)) 164, nI (6 - 1), m_slots M, m_isSaved M, m_pad M, m_typed M, m_spot M, m_told M, m_toldMany M)) := hD
          refine lv_aload_n hx hb dX5_record_70 rfl (lv_at hl 0 rfl) ?_
          refine lv_dup hx hb dX5_record_71 rfl ?_
          refine va_get (D := G) (ci := 5) (v := .int (nI (6 - 1))) (C := RX5) (T := TX5) (N := 10) hx hb hts in_wsX50 hown hev.1 hP 0 rfl rfl 2 (by decide) (hts (.fieldLink RX5 41 "PuddleMinistriesModel" "states" "I") (List.mem_of_getElem? (i := 1) rfl)) (fun _ h9 => h9) rfl dX5_record_72 ?_
          refine lv_iconst (v := nI 1) hx hb dX5_record_75 (by decide) ?_
          refine lv_iadd hx hb dX5_record_76 ?_
          refine lv_eqi (nI_add _ _) ?_
          refine va_put (D := G) (ci := 5) (v := .int (nI ((6 - 1) + 1))) (ty := .int) (C := RX5) (T := TX5) (N := 10) hx hb hts in_wsX50 tyX5 tyX5_ok nmX5 hown hev.1 hP hD hS 0 rfl rfl 2 (by decide) (hts (.fieldLink RX5 41 "PuddleMinistriesModel" "states" "I") (List.mem_of_getElem? (i := 1) rfl)) (fun _ h9 => h9) rfl (by decide +kernel) rfl rfl (Nat.le_of_ble_eq_true rfl) dX5_record_77 (fun H locs hP hD hS => ?_)
          have hP : va_P G vwCl (moT ca h a (m_z M, cpA (m_z M) 0 (shP (m_past M) n820) (164 * (6 - 1)) 164, nI ((6 - 1) + 1), m_slots M, m_isSaved M, m_pad M, m_typed M, m_spot M, m_told M, m_toldMany M)) H := hP
          have hD : va_D A (moT ca h a (m_z M, cpA (m_z M) 0 (shP (m_past M) n820) (164 * (6 - 1)) 164, nI ((6 - 1) + 1), m_slots M, m_isSaved M, m_pad M, m_typed M, m_spot M, m_told M, m_toldMany M)) := hD
          exact hret _ _ _ _ hP hS dX5_record_80
        · skip
          exact absurd (nI_le (by omega) (by omega)) c_2
      | succ n ih =>
        intro i hi H locs ls hP hD hS hl
        have hlt : i < n820 := by omega
        refine lv_iload_n hx hb dX5_record_11 rfl (lv_at hl 1 rfl) ?_
        refine lv_sipush (v := nI 820) hx hb dX5_record_12 (by decide) ?_
        refine lv_icmp_ge (tgt := 40) hx hb dX5_record_15 (by decide) (fun c_3 => ?_) (fun c_3 => ?_)
        · skip
          exact absurd c_3 (nI_ge (by omega) (by omega))
        · skip
          refine lv_aload_n hx hb dX5_record_18 rfl (lv_at hl 0 rfl) ?_
          refine va_get (D := G) (ci := 5) (v := .ref (a 1)) (C := RX5) (T := TX5) (N := 10) hx hb hts in_wsX50 hown hev.1 hP 0 rfl rfl 1 (by decide) (hts (.fieldLink RX5 13 "PuddleMinistriesModel" "past" "[I") (List.mem_of_getElem? (i := 2) rfl)) (fun _ h9 => h9) rfl dX5_record_19 ?_
          refine lv_iload_n hx hb dX5_record_22 rfl (lv_at hl 1 rfl) ?_
          refine lv_aload_n hx hb dX5_record_23 rfl (lv_at hl 0 rfl) ?_
          refine va_get (D := G) (ci := 5) (v := .ref (a 1)) (C := RX5) (T := TX5) (N := 10) hx hb hts in_wsX50 hown hev.1 hP 0 rfl rfl 1 (by decide) (hts (.fieldLink RX5 13 "PuddleMinistriesModel" "past" "[I") (List.mem_of_getElem? (i := 2) rfl)) (fun _ h9 => h9) rfl dX5_record_24 ?_
          refine lv_iload_n hx hb dX5_record_27 rfl (lv_at hl 1 rfl) ?_
          refine lv_sipush (v := nI 164) hx hb dX5_record_28 (by decide) ?_
          refine lv_iadd hx hb dX5_record_31 ?_
          refine lv_eqi (nI_add _ _) ?_
          refine b_iald hx hb hev.1 hP 2 rfl rfl (j := (i + 164)) (by omega) (by decide) dX5_record_32 ?_
          refine b_iast hx hb hev.1 hP hD hS 2 rfl rfl (j := i) (by omega) (by decide) dX5_record_33 (fun H locs hP hD hS => ?_)
          have hP : va_P G vwCl (moT ca h a (m_z M, upd (shP (m_past M) i) i ((shP (m_past M) i) (i + 164)), m_states M, m_slots M, m_isSaved M, m_pad M, m_typed M, m_spot M, m_told M, m_toldMany M)) H := hP
          have hD : va_D A (moT ca h a (m_z M, upd (shP (m_past M) i) i ((shP (m_past M) i) (i + 164)), m_states M, m_slots M, m_isSaved M, m_pad M, m_typed M, m_spot M, m_told M, m_toldMany M)) := hD
          refine lv_iinc (v := nI (i + 1)) (lv' := [(1, .int (nI (i + 1))), (0, .ref h)]) hx hb dX5_record_34 hl (k := 1) rfl (nI_1 _) (by decide) rfl (fun ls hl => ?_)
          refine lv_goto (tgt := 11) hx hb dX5_record_37 (by decide) ?_
          exact ih (i + 1) (by omega) _ _ _ (by rw [show (shP (m_past M) (i + 1)) = (upd (shP (m_past M) i) i ((shP (m_past M) i) (i + 164))) from by rfl]; exact hP) (D_of hD moF) hS (lv_sub hl [1, 0] rfl)
    exact loop_11 n820 0 (by omega) _ _ _ hP (D_of hD moF) hS (lv_sub hl [1, 0] rfl)
