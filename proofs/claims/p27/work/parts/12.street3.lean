/-! class Street: walks, costs, weather; sum and copy over any world -/
def plc (k f t : Nat) : Nat := if f ≤ t then f + k else f - k
theorem plc_lt (k f t : Nat) (hf : f < 12) (ht : t < 12) (hk : k ≤ t - f + (f - t)) : plc k f t < 12 := by unfold plc; split <;> omega
theorem abs_dst (t f : Nat) (ht : t < 12) (hf : f < 12) : (if (0 : Int32) ≤ nI t - nI f then nI t - nI f else 0 - (nI t - nI f)) = nI (t - f + (f - t)) := by
  have h : ∀ t, t < 12 → ∀ f, f < 12 → (if (0 : Int32) ≤ nI t - nI f then nI t - nI f else 0 - (nI t - nI f)) = nI (t - f + (f - t)) := by decide +kernel
  exact h t ht f hf
def stp (g : Nat → Int32) : Nat → Nat → Nat | 0, i => i | n + 1, i => if g i = 0 then i else stp g n (i + 1)
theorem stp_s (g : Nat → Int32) (n i : Nat) : stp g (n + 1) i = if g i = 0 then i else stp g n (i + 1) := rfl
theorem stp_le (g : Nat → Int32) (n : Nat) : ∀ i, stp g n i ≤ i + n := by
  induction n with
  | zero => intro i; exact Nat.le_refl _
  | succ n ih =>
    intro i
    rw [stp_s]
    split
    · omega
    · have := ih (i + 1); omega
def stU (S : SS) (w f t : Nat) : Nat := stp (fun k => mayC S w (plc k f t)) (t - f + (f - t) + 1) 0
theorem stU_le (S : SS) (w f t : Nat) : stU S w f t ≤ t - f + (f - t) + 1 := by
  have := stp_le (fun k => mayC S w (plc k f t)) (t - f + (f - t) + 1) 0
  unfold stU; omega
set_option maxHeartbeats 4000000 in
set_option maxRecDepth 100000 in
theorem c_X4_placeAfter (l : Launch) (G : va_G) (ca : Nat → ClassId) (k : Nat) (f : Nat) (t : Nat) (hf : f < 12) (ht : t < 12) (hk : k ≤ t - f + (f - t)) : CtI l yX4_placeAfter wsX4_placeAfter ({ frames := 0, cells := 0, slots := 0, locals := 0 }) [.int (nI k), .int (nI f), .int (nI t)] G ca ([]) ([]) (nI (plc k f t)) := by
  refine CtI.ofW (cc := cX4_placeAfter) (maxL := 3) (rt := .int) (by decide) rfl (Nat.le_of_ble_eq_true rfl) rfl ?_
  intro pr en s m be me c A ls Q H hx hb hml hts hown hev hP hD hA hS hl hret
  have hown : s.vm.findClass RX4 = some m.cls := hown
  have hl : lv_has ls 3 [(0, .int (nI k)), (1, .int (nI f)), (2, .int (nI t))] := hl
  refine lv_iload_n hx hb dX4_placeAfter_0 rfl (lv_at hl 1 rfl) ?_
  refine lv_iload_n hx hb dX4_placeAfter_1 rfl (lv_at hl 2 rfl) ?_
  refine lv_icmp_gt (tgt := 11) hx hb dX4_placeAfter_2 (by decide) (fun c_1 => ?_) (fun c_1 => ?_)
  · skip
    have nc_1 : t < f := (nI_ltI (a := t) (b := f) (by omega) (by omega)).mp c_1
    refine lv_iload_n hx hb dX4_placeAfter_11 rfl (lv_at hl 1 rfl) ?_
    refine lv_iload_n hx hb dX4_placeAfter_12 rfl (lv_at hl 0 rfl) ?_
    refine lv_isub hx hb dX4_placeAfter_13 ?_
    refine lv_eqi (pk_sub (by omega)) ?_
    refine lv_eqi (y := nI (plc k f t)) (by first | rw [plc, if_pos (by omega)] | rw [plc, if_neg (by omega)]) ?_
    exact hret _ _ _ _ hP hS dX4_placeAfter_14
  · skip
    have nc_1 : ¬ t < f := fun q => c_1 ((nI_ltI (a := t) (b := f) (by omega) (by omega)).mpr q)
    refine lv_iload_n hx hb dX4_placeAfter_5 rfl (lv_at hl 1 rfl) ?_
    refine lv_iload_n hx hb dX4_placeAfter_6 rfl (lv_at hl 0 rfl) ?_
    refine lv_iadd hx hb dX4_placeAfter_7 ?_
    refine lv_eqi (nI_add _ _) ?_
    refine lv_goto (tgt := 14) hx hb dX4_placeAfter_8 (by decide) ?_
    refine lv_eqi (y := nI (plc k f t)) (by first | rw [plc, if_pos (by omega)] | rw [plc, if_neg (by omega)]) ?_
    exact hret _ _ _ _ hP hS dX4_placeAfter_14
set_option maxHeartbeats 4000000 in
set_option maxRecDepth 100000 in
theorem c_X3_stepsUntilBlocked (l : Launch) (G : va_G) (ca : Nat → ClassId) (h : Nat) (a : Nat → Nat) (S : SS) (w : Nat) (f : Nat) (t : Nat) (hw : w < 6) (hf : f < 12) (ht : t < 12) : CtI l yX3_stepsUntilBlocked wsX3_stepsUntilBlocked ({ frames := 4, cells := 0, slots := 0, locals := 89 }) [.ref h, .int (nI w), .int (nI f), .int (nI t)] G ca (stT ca h a S) (stT ca h a S) (nI (stU S w f t)) := by
  refine CtI.ofW (cc := cX3_stepsUntilBlocked) (maxL := 6) (rt := .int) (by decide) rfl (Nat.le_of_ble_eq_true rfl) rfl ?_
  intro pr en s m be me c A ls Q H hx hb hml hts hown hev hP hD hA hS hl hret
  have hown : s.vm.findClass RX3 = some m.cls := hown
  have hl : lv_has ls 6 [(0, .ref h), (1, .int (nI w)), (2, .int (nI f)), (3, .int (nI t))] := hl
  have in_wsX30 : ∀ w ∈ wsX30, w ∈ wsX3_stepsUntilBlocked := fun _ h => List.mem_cons_of_mem _ (List.mem_append_right _ h)
  refine lv_iload_n hx hb dX3_stepsUntilBlocked_0 rfl (lv_at hl 3 rfl) ?_
  refine lv_iload_n hx hb dX3_stepsUntilBlocked_1 rfl (lv_at hl 2 rfl) ?_
  refine lv_isub hx hb dX3_stepsUntilBlocked_2 ?_
  refine va_mabs hx hb (hml.trans hl.1.symm) hown (hts (.methodLink RX3 129 Lib.Math.abs.name) (List.mem_of_getElem? (i := 1) rfl)) (hts (.static Lib.Math.abs.name) (List.mem_of_getElem? (i := 2) rfl)) (hts (.initialized "java/lang/Math") (List.mem_of_getElem? (i := 3) rfl)) (hts (.code Lib.Math.abs.name Lib.Math.abs.code 1 (some .int)) (List.mem_of_getElem? (i := 4) rfl)) (Nat.le_of_ble_eq_true rfl) (Nat.le_of_ble_eq_true rfl) (Nat.zero_le _) (Nat.zero_le _) dX3_stepsUntilBlocked_3 ?_
  refine lv_eqi (y := nI (t - f + (f - t))) (by exact abs_dst _ _ (by omega) (by omega)) ?_
  refine lv_iconst (v := nI 1) hx hb dX3_stepsUntilBlocked_6 (by decide) ?_
  refine lv_iadd hx hb dX3_stepsUntilBlocked_7 ?_
  refine lv_eqi (nI_add _ _) ?_
  refine lv_istore (lv' := [(4, .int (nI ((t - f + (f - t)) + 1))), (0, .ref h), (1, .int (nI w)), (2, .int (nI f)), (3, .int (nI t))]) hx hb dX3_stepsUntilBlocked_8 hl (by decide) rfl (fun ls hl => ?_)
  refine lv_iconst (v := nI 0) hx hb dX3_stepsUntilBlocked_10 (by decide) ?_
  refine lv_istore (lv' := [(5, .int (nI 0)), (4, .int (nI ((t - f + (f - t)) + 1))), (0, .ref h), (1, .int (nI w)), (2, .int (nI f)), (3, .int (nI t))]) hx hb dX3_stepsUntilBlocked_11 hl (by decide) rfl (fun ls hl => ?_)
  have loop_13 : ∀ (n i : Nat), i + n = t - f + (f - t) + 1 → stp (fun k => mayC S w (plc k f t)) n i = stU S w f t → ∀ (H : Heap) (locs : List Loc) (ls : Array Slot), va_P G vwCl (stT ca h a S) H → va_D A (stT ca h a S) → va_S A s.heap H locs → lv_has ls 6 [(0, .ref h), (1, .int (nI w)), (2, .int (nI f)), (3, .int (nI t)), (4, .int (nI ((t - f + (f - t)) + 1))), (5, .int (nI i))] → W pr l en ({ frames := 4, cells := 0, slots := 0, locals := 89 } : Room) s m ([.ref h, .int (nI w), .int (nI f), .int (nI t)] : List Value).toArray be me c H locs 0 0 Q (F0 m 13 ls []) := by
    intro n
    induction n with
    | zero =>
      intro i hi hr H locs ls hP hD hS hl
      obtain rfl : i = t - f + (f - t) + 1 := by omega
      refine lv_iload hx hb dX3_stepsUntilBlocked_13 (lv_at hl 5 rfl) ?_
      refine lv_iload hx hb dX3_stepsUntilBlocked_15 (lv_at hl 4 rfl) ?_
      refine lv_icmp_ge (tgt := 44) hx hb dX3_stepsUntilBlocked_17 (by decide) (fun c_1 => ?_) (fun c_1 => ?_)
      · skip
        refine lv_iload hx hb dX3_stepsUntilBlocked_44 (lv_at hl 4 rfl) ?_
        refine lv_eqi (y := nI (stU S w f t)) (by rw [← hr]; rfl) ?_
        exact hret _ _ _ _ hP hS dX3_stepsUntilBlocked_46
      · skip
        exact absurd (nI_le (by omega) (by omega)) c_1
    | succ n ih =>
      intro i hi hr H locs ls hP hD hS hl
      have hlt : i < t - f + (f - t) + 1 := by omega
      refine lv_iload hx hb dX3_stepsUntilBlocked_13 (lv_at hl 5 rfl) ?_
      refine lv_iload hx hb dX3_stepsUntilBlocked_15 (lv_at hl 4 rfl) ?_
      refine lv_icmp_ge (tgt := 44) hx hb dX3_stepsUntilBlocked_17 (by decide) (fun c_2 => ?_) (fun c_2 => ?_)
      · skip
        exact absurd c_2 (nI_ge (by omega) (by omega))
      · skip
        refine lv_aload_n hx hb dX3_stepsUntilBlocked_20 rfl (lv_at hl 0 rfl) ?_
        refine lv_iload_n hx hb dX3_stepsUntilBlocked_21 rfl (lv_at hl 1 rfl) ?_
        refine lv_iload hx hb dX3_stepsUntilBlocked_22 (lv_at hl 5 rfl) ?_
        refine lv_iload_n hx hb dX3_stepsUntilBlocked_24 rfl (lv_at hl 2 rfl) ?_
        refine lv_iload_n hx hb dX3_stepsUntilBlocked_25 rfl (lv_at hl 3 rfl) ?_
        refine goI0 (va_runSN (As := [.int (nI i), .int (nI f), .int (nI t)]) (rest := [.int (nI w), .ref h]) ⟨hx, hb, hml, hown, hts⟩ (CtI.use (c_X4_placeAfter l G ca i f t (by omega) (by omega) (by omega)) H.size) ⟨va_cnB 3 hts gX3_stepsUntilBlocked_X4_placeAfter_n132 rfl rfl rfl hev.2.2.2.2.2 (hts (.initialized RX4) (List.mem_of_getElem? (i := 6) rfl)) (by decide +kernel) ⟨Nat.le_of_ble_eq_true rfl, Nat.le_of_ble_eq_true rfl⟩, hts (.static yX4_placeAfter) (List.mem_of_getElem? (i := 5) rfl), trivial⟩ (pcW_S hev P_nil (D_nil (A := A))) rfl rfl hl.1 rfl (lv_room (Nat.le_of_ble_eq_true rfl)) dX3_stepsUntilBlocked_26 ⟨Nat.zero_le _, Nat.zero_le _⟩) hP hS hA (fun H locs hP hS => ?_)
        refine goIw (va_runV (As := [.int (nI w), .int (nI (plc i f t))]) (rest := []) ⟨hx, hb, hml, hown, hts⟩ (CtI.use (c_X3_mayCross l G ca h a S w (plc i f t) (by omega) (plc_lt _ _ _ (by omega) (by omega) (by omega))) H.size) (cwV 2 hts gX3_stepsUntilBlocked_X3_mayCross rfl rfl rfl (by decide +kernel) ⟨Nat.le_of_ble_eq_true rfl, Nat.le_of_ble_eq_true rfl⟩) (pcW_V hev hP hD (q0 := 0) rfl rfl rfl) rfl rfl hl.1 rfl (lv_room (Nat.le_of_ble_eq_true rfl)) dX3_stepsUntilBlocked_29 ⟨Nat.zero_le _, Nat.zero_le _⟩) hD hS hA stF (fun H locs hP hD hS => ?_)
        refine lv_if_ne (tgt := 38) hx hb dX3_stepsUntilBlocked_32 (by decide) (fun c_3 => ?_) (fun c_3 => ?_)
        · skip
          refine lv_iinc (v := nI (i + 1)) (lv' := [(5, .int (nI (i + 1))), (0, .ref h), (1, .int (nI w)), (2, .int (nI f)), (3, .int (nI t)), (4, .int (nI ((t - f + (f - t)) + 1)))]) hx hb dX3_stepsUntilBlocked_38 hl (k := 5) rfl (nI_1 _) (by decide) rfl (fun ls hl => ?_)
          refine lv_goto (tgt := 13) hx hb dX3_stepsUntilBlocked_41 (by decide) ?_
          exact ih (i + 1) (by omega) (by rw [← hr, stp_s, if_neg c_3]) _ _ _ hP (D_of hD stF) hS (lv_sub hl [1, 2, 3, 4, 5, 0] rfl)
        · skip
          refine lv_iload hx hb dX3_stepsUntilBlocked_35 (lv_at hl 5 rfl) ?_
          refine lv_eqi (y := nI (stU S w f t)) (by rw [← hr, stp_s, if_pos c_3]) ?_
          exact hret _ _ _ _ hP hS dX3_stepsUntilBlocked_37
  exact loop_13 (t - f + (f - t) + 1) 0 (by omega) (by rfl) _ _ _ hP (D_of hD stF) hS (lv_sub hl [2, 3, 4, 5, 1, 0] rfl)
set_option maxHeartbeats 4000000 in
set_option maxRecDepth 100000 in
theorem c_X3_costBySteps (l : Launch) (G : va_G) (ca : Nat → ClassId) (h : Nat) (a : Nat → Nat) (S : SS) (w : Nat) (f : Nat) (t : Nat) (hw : w < 6) (hf : f < 12) (ht : t < 12) : CtI l yX3_costBySteps wsX3_costBySteps ({ frames := 4, cells := 0, slots := 0, locals := 89 }) [.ref h, .int (nI w), .int (nI f), .int (nI t)] G ca (stT ca h a S) (stT ca h a S) (smD (fun k => dutyA S (plc k f t)) (stU S w f t)) := by
  refine CtI.ofW (cc := cX3_costBySteps) (maxL := 8) (rt := .int) (by decide) rfl (Nat.le_of_ble_eq_true rfl) rfl ?_
  intro pr en s m be me c A ls Q H hx hb hml hts hown hev hP hD hA hS hl hret
  have hown : s.vm.findClass RX3 = some m.cls := hown
  have hl : lv_has ls 8 [(0, .ref h), (1, .int (nI w)), (2, .int (nI f)), (3, .int (nI t))] := hl
  have in_wsX30 : ∀ w ∈ wsX30, w ∈ wsX3_costBySteps := fun _ h => List.mem_cons_of_mem _ (List.mem_append_right _ h)
  refine lv_iload_n hx hb dX3_costBySteps_0 rfl (lv_at hl 3 rfl) ?_
  refine lv_iload_n hx hb dX3_costBySteps_1 rfl (lv_at hl 2 rfl) ?_
  refine lv_isub hx hb dX3_costBySteps_2 ?_
  refine va_mabs hx hb (hml.trans hl.1.symm) hown (hts (.methodLink RX3 129 Lib.Math.abs.name) (List.mem_of_getElem? (i := 1) rfl)) (hts (.static Lib.Math.abs.name) (List.mem_of_getElem? (i := 2) rfl)) (hts (.initialized "java/lang/Math") (List.mem_of_getElem? (i := 3) rfl)) (hts (.code Lib.Math.abs.name Lib.Math.abs.code 1 (some .int)) (List.mem_of_getElem? (i := 4) rfl)) (Nat.le_of_ble_eq_true rfl) (Nat.le_of_ble_eq_true rfl) (Nat.zero_le _) (Nat.zero_le _) dX3_costBySteps_3 ?_
  refine lv_eqi (y := nI (t - f + (f - t))) (by exact abs_dst _ _ (by omega) (by omega)) ?_
  refine lv_iconst (v := nI 1) hx hb dX3_costBySteps_6 (by decide) ?_
  refine lv_iadd hx hb dX3_costBySteps_7 ?_
  refine lv_eqi (nI_add _ _) ?_
  refine lv_istore (lv' := [(4, .int (nI ((t - f + (f - t)) + 1))), (0, .ref h), (1, .int (nI w)), (2, .int (nI f)), (3, .int (nI t))]) hx hb dX3_costBySteps_8 hl (by decide) rfl (fun ls hl => ?_)
  refine lv_iconst (v := 0) hx hb dX3_costBySteps_10 (by decide) ?_
  refine lv_istore (lv' := [(5, .int 0), (4, .int (nI ((t - f + (f - t)) + 1))), (0, .ref h), (1, .int (nI w)), (2, .int (nI f)), (3, .int (nI t))]) hx hb dX3_costBySteps_11 hl (by decide) rfl (fun ls hl => ?_)
  refine lv_iconst (v := nI 0) hx hb dX3_costBySteps_13 (by decide) ?_
  refine lv_istore (lv' := [(6, .int (nI 0)), (5, .int 0), (4, .int (nI ((t - f + (f - t)) + 1))), (0, .ref h), (1, .int (nI w)), (2, .int (nI f)), (3, .int (nI t))]) hx hb dX3_costBySteps_14 hl (by decide) rfl (fun ls hl => ?_)
  have loop_16 : ∀ (n i : Nat), i + n = t - f + (f - t) + 1 → stp (fun k => mayC S w (plc k f t)) n i = stU S w f t → ∀ (H : Heap) (locs : List Loc) (ls : Array Slot), va_P G vwCl (stT ca h a S) H → va_D A (stT ca h a S) → va_S A s.heap H locs → lv_has ls 8 [(0, .ref h), (1, .int (nI w)), (2, .int (nI f)), (3, .int (nI t)), (4, .int (nI ((t - f + (f - t)) + 1))), (5, .int (smD (fun k => dutyA S (plc k f t)) i)), (6, .int (nI i))] → W pr l en ({ frames := 4, cells := 0, slots := 0, locals := 89 } : Room) s m ([.ref h, .int (nI w), .int (nI f), .int (nI t)] : List Value).toArray be me c H locs 0 0 Q (F0 m 16 ls []) := by
    intro n
    induction n with
    | zero =>
      intro i hi hr H locs ls hP hD hS hl
      obtain rfl : i = t - f + (f - t) + 1 := by omega
      refine lv_iload hx hb dX3_costBySteps_16 (lv_at hl 6 rfl) ?_
      refine lv_iload hx hb dX3_costBySteps_18 (lv_at hl 4 rfl) ?_
      refine lv_icmp_ge (tgt := 62) hx hb dX3_costBySteps_20 (by decide) (fun c_1 => ?_) (fun c_1 => ?_)
      · skip
        refine lv_iload hx hb dX3_costBySteps_62 (lv_at hl 5 rfl) ?_
        refine lv_eqi (y := smD (fun k => dutyA S (plc k f t)) (stU S w f t)) (by rw [← hr]; rfl) ?_
        exact hret _ _ _ _ hP hS dX3_costBySteps_64
      · skip
        exact absurd (nI_le (by omega) (by omega)) c_1
    | succ n ih =>
      intro i hi hr H locs ls hP hD hS hl
      have hlt : i < t - f + (f - t) + 1 := by omega
      refine lv_iload hx hb dX3_costBySteps_16 (lv_at hl 6 rfl) ?_
      refine lv_iload hx hb dX3_costBySteps_18 (lv_at hl 4 rfl) ?_
      refine lv_icmp_ge (tgt := 62) hx hb dX3_costBySteps_20 (by decide) (fun c_2 => ?_) (fun c_2 => ?_)
      · skip
        exact absurd c_2 (nI_ge (by omega) (by omega))
      · skip
        refine lv_iload hx hb dX3_costBySteps_23 (lv_at hl 6 rfl) ?_
        refine lv_iload_n hx hb dX3_costBySteps_25 rfl (lv_at hl 2 rfl) ?_
        refine lv_iload_n hx hb dX3_costBySteps_26 rfl (lv_at hl 3 rfl) ?_
        refine goI0 (va_runSN (As := [.int (nI i), .int (nI f), .int (nI t)]) (rest := []) ⟨hx, hb, hml, hown, hts⟩ (CtI.use (c_X4_placeAfter l G ca i f t (by omega) (by omega) (by omega)) H.size) ⟨va_cnB 3 hts gX3_costBySteps_X4_placeAfter_n132 rfl rfl rfl hev.2.2.2.2.2 (hts (.initialized RX4) (List.mem_of_getElem? (i := 6) rfl)) (by decide +kernel) ⟨Nat.le_of_ble_eq_true rfl, Nat.le_of_ble_eq_true rfl⟩, hts (.static yX4_placeAfter) (List.mem_of_getElem? (i := 5) rfl), trivial⟩ (pcW_S hev P_nil (D_nil (A := A))) rfl rfl hl.1 rfl (lv_room (Nat.le_of_ble_eq_true rfl)) dX3_costBySteps_27 ⟨Nat.zero_le _, Nat.zero_le _⟩) hP hS hA (fun H locs hP hS => ?_)
        refine lv_istore (lv' := [(7, .int (nI (plc i f t))), (0, .ref h), (1, .int (nI w)), (2, .int (nI f)), (3, .int (nI t)), (4, .int (nI ((t - f + (f - t)) + 1))), (5, .int (smD (fun k => dutyA S (plc k f t)) i)), (6, .int (nI i))]) hx hb dX3_costBySteps_30 hl (by decide) rfl (fun ls hl => ?_)
        refine lv_aload_n hx hb dX3_costBySteps_32 rfl (lv_at hl 1 rfl) ?_
        refine lv_iload_n hx hb dX3_costBySteps_33 rfl (lv_at hl 2 rfl) ?_
        refine lv_iload hx hb dX3_costBySteps_34 (lv_at hl 0 rfl) ?_
        refine goIw (va_runV (As := [.int (nI w), .int (nI (plc i f t))]) (rest := []) ⟨hx, hb, hml, hown, hts⟩ (CtI.use (c_X3_mayCross l G ca h a S w (plc i f t) (by omega) (plc_lt _ _ _ (by omega) (by omega) (by omega))) H.size) (cwV 2 hts gX3_costBySteps_X3_mayCross rfl rfl rfl (by decide +kernel) ⟨Nat.le_of_ble_eq_true rfl, Nat.le_of_ble_eq_true rfl⟩) (pcW_V hev hP hD (q0 := 0) rfl rfl rfl) rfl rfl hl.1 rfl (lv_room (Nat.le_of_ble_eq_true rfl)) dX3_costBySteps_36 ⟨Nat.zero_le _, Nat.zero_le _⟩) hD hS hA stF (fun H locs hP hD hS => ?_)
        refine lv_if_ne (tgt := 45) hx hb dX3_costBySteps_39 (by decide) (fun c_3 => ?_) (fun c_3 => ?_)
        · skip
          refine lv_iload hx hb dX3_costBySteps_45 (lv_at hl 6 rfl) ?_
          refine lv_aload_n hx hb dX3_costBySteps_47 rfl (lv_at hl 1 rfl) ?_
          refine lv_iload hx hb dX3_costBySteps_48 (lv_at hl 0 rfl) ?_
          refine goIw (va_runV (As := [.int (nI (plc i f t))]) (rest := [.int (smD (fun k => dutyA S (plc k f t)) i)]) ⟨hx, hb, hml, hown, hts⟩ (CtI.use (c_X3_dutyAt l G ca h a S (plc i f t) (plc_lt _ _ _ (by omega) (by omega) (by omega))) H.size) (cwV 1 hts gX3_costBySteps_X3_dutyAt rfl rfl rfl (by decide +kernel) ⟨Nat.le_of_ble_eq_true rfl, Nat.le_of_ble_eq_true rfl⟩) (pcW_V hev hP hD (q0 := 0) rfl rfl rfl) rfl rfl hl.1 rfl (lv_room (Nat.le_of_ble_eq_true rfl)) dX3_costBySteps_50 ⟨Nat.zero_le _, Nat.zero_le _⟩) hD hS hA stF (fun H locs hP hD hS => ?_)
          refine lv_iadd hx hb dX3_costBySteps_53 ?_
          refine lv_istore (lv' := [(5, .int ((smD (fun k => dutyA S (plc k f t)) i) + (dutyA S (plc i f t)))), (7, .int (nI (plc i f t))), (0, .ref h), (1, .int (nI w)), (2, .int (nI f)), (3, .int (nI t)), (4, .int (nI ((t - f + (f - t)) + 1))), (6, .int (nI i))]) hx hb dX3_costBySteps_54 hl (by decide) rfl (fun ls hl => ?_)
          refine lv_iinc (v := nI (i + 1)) (lv' := [(6, .int (nI (i + 1))), (5, .int ((smD (fun k => dutyA S (plc k f t)) i) + (dutyA S (plc i f t)))), (7, .int (nI (plc i f t))), (0, .ref h), (1, .int (nI w)), (2, .int (nI f)), (3, .int (nI t)), (4, .int (nI ((t - f + (f - t)) + 1)))]) hx hb dX3_costBySteps_56 hl (k := 7) rfl (nI_1 _) (by decide) rfl (fun ls hl => ?_)
          refine lv_goto (tgt := 16) hx hb dX3_costBySteps_59 (by decide) ?_
          exact ih (i + 1) (by omega) (by rw [← hr, stp_s, if_neg c_3]) _ _ _ hP (D_of hD stF) hS (lv_sub hl [3, 4, 5, 6, 7, 1, 0] rfl)
        · skip
          refine lv_iload hx hb dX3_costBySteps_42 (lv_at hl 6 rfl) ?_
          refine lv_eqi (y := smD (fun k => dutyA S (plc k f t)) (stU S w f t)) (by rw [← hr, stp_s, if_pos c_3]) ?_
          exact hret _ _ _ _ hP hS dX3_costBySteps_44
  exact loop_16 (t - f + (f - t) + 1) 0 (by omega) (by rfl) _ _ _ hP (D_of hD stF) hS (lv_sub hl [3, 4, 5, 6, 2, 1, 0] rfl)
set_option maxHeartbeats 4000000 in
set_option maxRecDepth 100000 in
theorem c_X3_costByBlock (l : Launch) (G : va_G) (ca : Nat → ClassId) (h : Nat) (a : Nat → Nat) (S : SS) (w : Nat) (f : Nat) (t : Nat) (hw : w < 6) (hf : f < 12) (ht : t < 12) : CtI l yX3_costByBlock wsX3_costByBlock ({ frames := 5, cells := 0, slots := 0, locals := 114 }) [.ref h, .int (nI w), .int (nI f), .int (nI t)] G ca (stT ca h a S) (stT ca h a S) (smD (fun k => dutyA S (plc k f t)) (stU S w f t)) := by
  refine CtI.ofW (cc := cX3_costByBlock) (maxL := 7) (rt := .int) (by decide) rfl (Nat.le_of_ble_eq_true rfl) rfl ?_
  intro pr en s m be me c A ls Q H hx hb hml hts hown hev hP hD hA hS hl hret
  have hown : s.vm.findClass RX3 = some m.cls := hown
  have hl : lv_has ls 7 [(0, .ref h), (1, .int (nI w)), (2, .int (nI f)), (3, .int (nI t))] := hl
  have in_wsX30 : ∀ w ∈ wsX30, w ∈ wsX3_costByBlock := fun _ h => List.mem_cons_of_mem _ (List.mem_append_right _ h)
  have hst := stU_le S w f t
  refine lv_aload_n hx hb dX3_costByBlock_0 rfl (lv_at hl 0 rfl) ?_
  refine lv_iload_n hx hb dX3_costByBlock_1 rfl (lv_at hl 1 rfl) ?_
  refine lv_iload_n hx hb dX3_costByBlock_2 rfl (lv_at hl 2 rfl) ?_
  refine lv_iload_n hx hb dX3_costByBlock_3 rfl (lv_at hl 3 rfl) ?_
  refine goIw (va_runV (As := [.int (nI w), .int (nI f), .int (nI t)]) (rest := []) ⟨hx, hb, hml, hown, hts⟩ (CtI.use (c_X3_stepsUntilBlocked l G ca h a S w f t (by omega) (by omega) (by omega)) H.size) (cwV 3 hts gX3_costByBlock_X3_stepsUntilBlocked rfl rfl rfl (by decide +kernel) ⟨Nat.le_of_ble_eq_true rfl, Nat.le_of_ble_eq_true rfl⟩) (pcW_V hev hP hD (q0 := 0) rfl rfl rfl) rfl rfl hl.1 rfl (lv_room (Nat.le_of_ble_eq_true rfl)) dX3_costByBlock_4 ⟨Nat.zero_le _, Nat.zero_le _⟩) hD hS hA stF (fun H locs hP hD hS => ?_)
  refine lv_istore (lv' := [(4, .int (nI (stU S w f t))), (0, .ref h), (1, .int (nI w)), (2, .int (nI f)), (3, .int (nI t))]) hx hb dX3_costByBlock_7 hl (by decide) rfl (fun ls hl => ?_)
  refine lv_iconst (v := 0) hx hb dX3_costByBlock_9 (by decide) ?_
  refine lv_istore (lv' := [(5, .int 0), (4, .int (nI (stU S w f t))), (0, .ref h), (1, .int (nI w)), (2, .int (nI f)), (3, .int (nI t))]) hx hb dX3_costByBlock_10 hl (by decide) rfl (fun ls hl => ?_)
  refine lv_iconst (v := nI 0) hx hb dX3_costByBlock_12 (by decide) ?_
  refine lv_istore (lv' := [(6, .int (nI 0)), (5, .int 0), (4, .int (nI (stU S w f t))), (0, .ref h), (1, .int (nI w)), (2, .int (nI f)), (3, .int (nI t))]) hx hb dX3_costByBlock_13 hl (by decide) rfl (fun ls hl => ?_)
  have loop_15 : ∀ (n i : Nat), i + n = stU S w f t → ∀ (H : Heap) (locs : List Loc) (ls : Array Slot), va_P G vwCl (stT ca h a S) H → va_D A (stT ca h a S) → va_S A s.heap H locs → lv_has ls 7 [(0, .ref h), (1, .int (nI w)), (2, .int (nI f)), (3, .int (nI t)), (4, .int (nI (stU S w f t))), (5, .int (smD (fun k => dutyA S (plc k f t)) i)), (6, .int (nI i))] → W pr l en ({ frames := 5, cells := 0, slots := 0, locals := 114 } : Room) s m ([.ref h, .int (nI w), .int (nI f), .int (nI t)] : List Value).toArray be me c H locs 0 0 Q (F0 m 15 ls []) := by
    intro n
    induction n with
    | zero =>
      intro i hi H locs ls hP hD hS hl
      obtain rfl : i = stU S w f t := by omega
      refine lv_iload hx hb dX3_costByBlock_15 (lv_at hl 6 rfl) ?_
      refine lv_iload hx hb dX3_costByBlock_17 (lv_at hl 4 rfl) ?_
      refine lv_icmp_ge (tgt := 44) hx hb dX3_costByBlock_19 (by decide) (fun c_1 => ?_) (fun c_1 => ?_)
      · skip
        refine lv_iload hx hb dX3_costByBlock_44 (lv_at hl 5 rfl) ?_
        exact hret _ _ _ _ hP hS dX3_costByBlock_46
      · skip
        exact absurd (nI_le (by omega) (by omega)) c_1
    | succ n ih =>
      intro i hi H locs ls hP hD hS hl
      have hlt : i < stU S w f t := by omega
      refine lv_iload hx hb dX3_costByBlock_15 (lv_at hl 6 rfl) ?_
      refine lv_iload hx hb dX3_costByBlock_17 (lv_at hl 4 rfl) ?_
      refine lv_icmp_ge (tgt := 44) hx hb dX3_costByBlock_19 (by decide) (fun c_2 => ?_) (fun c_2 => ?_)
      · skip
        exact absurd c_2 (nI_ge (by omega) (by omega))
      · skip
        refine lv_iload hx hb dX3_costByBlock_22 (lv_at hl 5 rfl) ?_
        refine lv_aload_n hx hb dX3_costByBlock_24 rfl (lv_at hl 0 rfl) ?_
        refine lv_iload hx hb dX3_costByBlock_25 (lv_at hl 6 rfl) ?_
        refine lv_iload_n hx hb dX3_costByBlock_27 rfl (lv_at hl 2 rfl) ?_
        refine lv_iload_n hx hb dX3_costByBlock_28 rfl (lv_at hl 3 rfl) ?_
        refine goI0 (va_runSN (As := [.int (nI i), .int (nI f), .int (nI t)]) (rest := [.ref h, .int (smD (fun k => dutyA S (plc k f t)) i)]) ⟨hx, hb, hml, hown, hts⟩ (CtI.use (c_X4_placeAfter l G ca i f t (by omega) (by omega) (by omega)) H.size) ⟨va_cnB 3 hts gX3_costByBlock_X4_placeAfter_n132 rfl rfl rfl hev.2.2.2.2.2 (hts (.initialized RX4) (List.mem_of_getElem? (i := 11) rfl)) (by decide +kernel) ⟨Nat.le_of_ble_eq_true rfl, Nat.le_of_ble_eq_true rfl⟩, hts (.static yX4_placeAfter) (List.mem_of_getElem? (i := 10) rfl), trivial⟩ (pcW_S hev P_nil (D_nil (A := A))) rfl rfl hl.1 rfl (lv_room (Nat.le_of_ble_eq_true rfl)) dX3_costByBlock_29 ⟨Nat.zero_le _, Nat.zero_le _⟩) hP hS hA (fun H locs hP hS => ?_)
        refine goIw (va_runV (As := [.int (nI (plc i f t))]) (rest := [.int (smD (fun k => dutyA S (plc k f t)) i)]) ⟨hx, hb, hml, hown, hts⟩ (CtI.use (c_X3_dutyAt l G ca h a S (plc i f t) (plc_lt _ _ _ (by omega) (by omega) (by omega))) H.size) (cwV 1 hts gX3_costByBlock_X3_dutyAt rfl rfl rfl (by decide +kernel) ⟨Nat.le_of_ble_eq_true rfl, Nat.le_of_ble_eq_true rfl⟩) (pcW_V hev hP hD (q0 := 0) rfl rfl rfl) rfl rfl hl.1 rfl (lv_room (Nat.le_of_ble_eq_true rfl)) dX3_costByBlock_32 ⟨Nat.zero_le _, Nat.zero_le _⟩) hD hS hA stF (fun H locs hP hD hS => ?_)
        refine lv_iadd hx hb dX3_costByBlock_35 ?_
        refine lv_istore (lv' := [(5, .int ((smD (fun k => dutyA S (plc k f t)) i) + (dutyA S (plc i f t)))), (0, .ref h), (1, .int (nI w)), (2, .int (nI f)), (3, .int (nI t)), (4, .int (nI (stU S w f t))), (6, .int (nI i))]) hx hb dX3_costByBlock_36 hl (by decide) rfl (fun ls hl => ?_)
        refine lv_iinc (v := nI (i + 1)) (lv' := [(6, .int (nI (i + 1))), (5, .int ((smD (fun k => dutyA S (plc k f t)) i) + (dutyA S (plc i f t)))), (0, .ref h), (1, .int (nI w)), (2, .int (nI f)), (3, .int (nI t)), (4, .int (nI (stU S w f t)))]) hx hb dX3_costByBlock_38 hl (k := 6) rfl (nI_1 _) (by decide) rfl (fun ls hl => ?_)
        refine lv_goto (tgt := 15) hx hb dX3_costByBlock_41 (by decide) ?_
        exact ih (i + 1) (by omega) _ _ _ hP (D_of hD stF) hS (lv_sub hl [2, 3, 4, 5, 6, 1, 0] rfl)
  exact loop_15 (stU S w f t) 0 (by omega) _ _ _ hP (D_of hD stF) hS (lv_sub hl [3, 4, 5, 6, 2, 1, 0] rfl)
def agL (pd : Nat → Int32) (p : Nat) : Nat → (Nat → Int32) | 0 => pd | w + 1 => if agL pd p w (w * 12 + p) ≤ 0 then agL pd p w else upd (agL pd p w) (w * 12 + p) (agL pd p w (w * 12 + p) - 1)
theorem agL_s (pd : Nat → Int32) (p w : Nat) : agL pd p (w + 1) = if agL pd p w (w * 12 + p) ≤ 0 then agL pd p w else upd (agL pd p w) (w * 12 + p) (agL pd p w (w * 12 + p) - 1) := rfl
def rnL (S : SS) (am : Int32) : Nat → (Nat → Int32) × Int32 × Int32 × Int32
  | 0 => (s_wa S, s_fe S, s_dn S, 0)
  | i + 1 => if bt1 (s_fz S) i = 0 then
      (upd (rnL S am i).1 i (if s_br S i < (rnL S am i).1 i + am + (rnL S am i).2.2.2 then s_br S i else (rnL S am i).1 i + am + (rnL S am i).2.2.2), (rnL S am i).2.1 + am, (rnL S am i).2.2.1, (rnL S am i).1 i + am + (rnL S am i).2.2.2 - (if s_br S i < (rnL S am i).1 i + am + (rnL S am i).2.2.2 then s_br S i else (rnL S am i).1 i + am + (rnL S am i).2.2.2))
    else ((rnL S am i).1, (rnL S am i).2.1, (rnL S am i).2.2.1 + (rnL S am i).2.2.2, 0)
theorem rnL_z {S : SS} {am : Int32} {i : Nat} (c : bt1 (s_fz S) i = 0) : rnL S am (i + 1) = (upd (rnL S am i).1 i (if s_br S i < (rnL S am i).1 i + am + (rnL S am i).2.2.2 then s_br S i else (rnL S am i).1 i + am + (rnL S am i).2.2.2), (rnL S am i).2.1 + am, (rnL S am i).2.2.1, (rnL S am i).1 i + am + (rnL S am i).2.2.2 - (if s_br S i < (rnL S am i).1 i + am + (rnL S am i).2.2.2 then s_br S i else (rnL S am i).1 i + am + (rnL S am i).2.2.2)) := if_pos c
theorem rnL_n {S : SS} {am : Int32} {i : Nat} (c : ¬ bt1 (s_fz S) i = 0) : rnL S am (i + 1) = ((rnL S am i).1, (rnL S am i).2.1, (rnL S am i).2.2.1 + (rnL S am i).2.2.2, 0) := if_neg c
def shL (S : SS) : Nat → (Nat → Int32) × Int32
  | 0 => (s_wa S, s_dr S)
  | i + 1 => if bt1 (s_fz S) i = 0 then
      (upd (shL S i).1 i ((shL S i).1 i - (if s_se S 1 < (shL S i).1 i then s_se S 1 else (shL S i).1 i)), (shL S i).2 + (if s_se S 1 < (shL S i).1 i then s_se S 1 else (shL S i).1 i)) else shL S i
theorem shL_z {S : SS} {i : Nat} (c : bt1 (s_fz S) i = 0) : shL S (i + 1) = (upd (shL S i).1 i ((shL S i).1 i - (if s_se S 1 < (shL S i).1 i then s_se S 1 else (shL S i).1 i)), (shL S i).2 + (if s_se S 1 < (shL S i).1 i then s_se S 1 else (shL S i).1 i)) := if_pos c
theorem shL_n {S : SS} {i : Nat} (c : ¬ bt1 (s_fz S) i = 0) : shL S (i + 1) = shL S i := if_neg c
def frL (S : SS) : Nat → Int32 | 0 => s_fz S | i + 1 => if 4 ≤ s_wa S i / 5 then frL S i else frL S i ||| ((1 : Int32) <<< (nI i &&& 31))
theorem frL_s (S : SS) (i : Nat) : frL S (i + 1) = if 4 ≤ s_wa S i / 5 then frL S i else frL S i ||| ((1 : Int32) <<< (nI i &&& 31)) := rfl
def edL (S : SS) (n6 : Nat) : Nat → Int32 × (Nat → Int32)
  | 0 => (0, s_pd S)
  | i + 1 => if bt1 (s_fz S) i = 0 then (if s_wa S i < s_se S 2 then ((edL S n6 i).1, agL (edL S n6 i).2 i n6) else ((edL S n6 i).1 ||| ((1 : Int32) <<< (nI i &&& 31)), agL (edL S n6 i).2 i n6)) else edL S n6 i
theorem edL_s (S : SS) (n6 i : Nat) : edL S n6 (i + 1) = if bt1 (s_fz S) i = 0 then (if s_wa S i < s_se S 2 then ((edL S n6 i).1, agL (edL S n6 i).2 i n6) else ((edL S n6 i).1 ||| ((1 : Int32) <<< (nI i &&& 31)), agL (edL S n6 i).2 i n6)) else edL S n6 i := rfl
theorem upd_at (f : Nat → Int32) (k : Nat) (x : Int32) : upd f k x k = x := if_pos rfl
set_option maxHeartbeats 4000000 in
set_option maxRecDepth 100000 in
theorem c_X3_agePermitsAt (l : Launch) (G : va_G) (ca : Nat → ClassId) (h : Nat) (a : Nat → Nat) (S : SS) (p : Nat) (n6 : Nat) (hp : p < 12) (h6 : n6 = 6) : CtV l yX3_agePermitsAt wsX3_agePermitsAt ({ frames := 1, cells := 0, slots := 0, locals := 21 }) [.ref h, .int (nI p)] G ca (stT ca h a S) (stT ca h a (s_se S, s_br S, s_wa S, s_cr S, s_sh S, s_ow S, s_pa S, s_cb S, agL (s_pd S) p n6, s_fz S, s_dk S, s_dy S, s_fe S, s_dr S, s_dn S)) := by
  refine CtV.ofW (cc := cX3_agePermitsAt) (maxL := 4) (by decide) rfl (Nat.le_of_ble_eq_true rfl) ?_
  intro pr en s m be me c A ls Q H hx hb hml hts hown hev hP hD hA hS hl hret
  have hown : s.vm.findClass RX3 = some m.cls := hown
  have hl : lv_has ls 4 [(0, .ref h), (1, .int (nI p))] := hl
  have in_wsX30 : ∀ w ∈ wsX30, w ∈ wsX3_agePermitsAt := fun _ h => List.mem_cons_of_mem _ (List.mem_append_right _ h)
  refine lv_iconst (v := nI 0) hx hb dX3_agePermitsAt_0 (by decide) ?_
  refine lv_istore_n (lv' := [(2, .int (nI 0)), (0, .ref h), (1, .int (nI p))]) hx hb dX3_agePermitsAt_1 rfl hl (by decide) rfl (fun ls hl => ?_)
  have loop_2 : ∀ (n i : Nat), i + n = n6 → ∀ (H : Heap) (locs : List Loc) (ls : Array Slot), va_P G vwCl (stT ca h a (s_se S, s_br S, s_wa S, s_cr S, s_sh S, s_ow S, s_pa S, s_cb S, agL (s_pd S) p i, s_fz S, s_dk S, s_dy S, s_fe S, s_dr S, s_dn S)) H → va_D A (stT ca h a (s_se S, s_br S, s_wa S, s_cr S, s_sh S, s_ow S, s_pa S, s_cb S, agL (s_pd S) p i, s_fz S, s_dk S, s_dy S, s_fe S, s_dr S, s_dn S)) → va_S A s.heap H locs → lv_has ls 4 [(0, .ref h), (1, .int (nI p)), (2, .int (nI i))] → W pr l en ({ frames := 1, cells := 0, slots := 0, locals := 21 } : Room) s m ([.ref h, .int (nI p)] : List Value).toArray be me c H locs 0 0 Q (F0 m 2 ls []) := by
    intro n
    induction n with
    | zero =>
      intro i hi H locs ls hP hD hS hl
      obtain rfl : n6 = i := by omega
      refine lv_iload_n hx hb dX3_agePermitsAt_2 rfl (lv_at hl 2 rfl) ?_
      refine lv_bipush (v := nI 6) hx hb dX3_agePermitsAt_3 (by decide) ?_
      refine lv_icmp_ge (tgt := 39) hx hb dX3_agePermitsAt_5 (by decide) (fun c_1 => ?_) (fun c_1 => ?_)
      · skip
        exact hret _ _ _ _ hP hS dX3_agePermitsAt_39
      · skip
        exact absurd (nI_le (by omega) (by omega)) c_1
    | succ n ih =>
      intro i hi H locs ls hP hD hS hl
      have hlt : i < n6 := by omega
      refine lv_iload_n hx hb dX3_agePermitsAt_2 rfl (lv_at hl 2 rfl) ?_
      refine lv_bipush (v := nI 6) hx hb dX3_agePermitsAt_3 (by decide) ?_
      refine lv_icmp_ge (tgt := 39) hx hb dX3_agePermitsAt_5 (by decide) (fun c_2 => ?_) (fun c_2 => ?_)
      · skip
        exact absurd c_2 (nI_ge (by omega) (by omega))
      · skip
        refine lv_iload_n hx hb dX3_agePermitsAt_8 rfl (lv_at hl 2 rfl) ?_
        refine lv_iload_n hx hb dX3_agePermitsAt_9 rfl (lv_at hl 1 rfl) ?_
        refine goI0 (va_runSN (As := [.int (nI i), .int (nI p)]) (rest := []) ⟨hx, hb, hml, hown, hts⟩ (CtI.use (c_X4_placeOf l G ca i p) H.size) ⟨va_cnB 2 hts gX3_agePermitsAt_X4_placeOf_n99 rfl rfl rfl hev.2.2.2.2.1 (hts (.initialized RX4) (List.mem_of_getElem? (i := 3) rfl)) (by decide +kernel) ⟨Nat.le_of_ble_eq_true rfl, Nat.le_of_ble_eq_true rfl⟩, hts (.static yX4_placeOf) (List.mem_of_getElem? (i := 2) rfl), trivial⟩ (pcW_S hev P_nil (D_nil (A := A))) rfl rfl hl.1 rfl (lv_room (Nat.le_of_ble_eq_true rfl)) dX3_agePermitsAt_10 ⟨Nat.zero_le _, Nat.zero_le _⟩) hP hS hA (fun H locs hP hS => ?_)
        refine lv_istore_n (lv' := [(3, .int (nI (i * 12 + p))), (0, .ref h), (1, .int (nI p)), (2, .int (nI i))]) hx hb dX3_agePermitsAt_13 rfl hl (by decide) rfl (fun ls hl => ?_)
        refine lv_aload_n hx hb dX3_agePermitsAt_14 rfl (lv_at hl 1 rfl) ?_
        refine va_get (D := G) (ci := 3) (v := .ref (a 8)) (C := RX3) (T := TX3) (N := 15) hx hb hts in_wsX30 hown hev.1 hP 0 rfl rfl 8 (by decide) (hts (.fieldLink RX3 36 "PuddleMinistries$Street" "permitDays" "[I") (List.mem_of_getElem? (i := 1) rfl)) (fun _ h9 => h9) rfl dX3_agePermitsAt_15 ?_
        refine lv_iload_n hx hb dX3_agePermitsAt_18 rfl (lv_at hl 0 rfl) ?_
        refine b_iald hx hb hev.1 hP 9 rfl rfl (j := (i * 12 + p)) (by omega) (by decide) dX3_agePermitsAt_19 ?_
        refine lv_if_le (tgt := 33) hx hb dX3_agePermitsAt_20 (by decide) (fun c_3 => ?_) (fun c_3 => ?_)
        · skip
          refine lv_iinc (v := nI (i + 1)) (lv' := [(2, .int (nI (i + 1))), (3, .int (nI (i * 12 + p))), (0, .ref h), (1, .int (nI p))]) hx hb dX3_agePermitsAt_33 hl (k := 3) rfl (nI_1 _) (by decide) rfl (fun ls hl => ?_)
          refine lv_goto (tgt := 2) hx hb dX3_agePermitsAt_36 (by decide) ?_
          exact ih (i + 1) (by omega) _ _ _ (by rw [show (agL (s_pd S) p (i + 1)) = (agL (s_pd S) p i) from by rw [agL_s, if_pos c_3]]; exact hP) (D_of hD stF) hS (lv_sub hl [2, 3, 0] rfl)
        · skip
          refine lv_aload_n hx hb dX3_agePermitsAt_23 rfl (lv_at hl 1 rfl) ?_
          refine va_get (D := G) (ci := 3) (v := .ref (a 8)) (C := RX3) (T := TX3) (N := 15) hx hb hts in_wsX30 hown hev.1 hP 0 rfl rfl 8 (by decide) (hts (.fieldLink RX3 36 "PuddleMinistries$Street" "permitDays" "[I") (List.mem_of_getElem? (i := 1) rfl)) (fun _ h9 => h9) rfl dX3_agePermitsAt_24 ?_
          refine lv_iload_n hx hb dX3_agePermitsAt_27 rfl (lv_at hl 0 rfl) ?_
          refine lv_dup2_11 hx hb dX3_agePermitsAt_28 rfl rfl ?_
          refine b_iald hx hb hev.1 hP 9 rfl rfl (j := (i * 12 + p)) (by omega) (by decide) dX3_agePermitsAt_29 ?_
          refine lv_iconst (v := 1) hx hb dX3_agePermitsAt_30 (by decide) ?_
          refine lv_isub hx hb dX3_agePermitsAt_31 ?_
          refine b_iast hx hb hev.1 hP hD hS 9 rfl rfl (j := (i * 12 + p)) (by omega) (by decide) dX3_agePermitsAt_32 (fun H locs hP hD hS => ?_)
          have hP : va_P G vwCl (stT ca h a (s_se S, s_br S, s_wa S, s_cr S, s_sh S, s_ow S, s_pa S, s_cb S, upd (agL (s_pd S) p i) (i * 12 + p) (((agL (s_pd S) p i) (i * 12 + p)) - 1), s_fz S, s_dk S, s_dy S, s_fe S, s_dr S, s_dn S)) H := hP
          have hD : va_D A (stT ca h a (s_se S, s_br S, s_wa S, s_cr S, s_sh S, s_ow S, s_pa S, s_cb S, upd (agL (s_pd S) p i) (i * 12 + p) (((agL (s_pd S) p i) (i * 12 + p)) - 1), s_fz S, s_dk S, s_dy S, s_fe S, s_dr S, s_dn S)) := hD
          refine lv_iinc (v := nI (i + 1)) (lv' := [(2, .int (nI (i + 1))), (3, .int (nI (i * 12 + p))), (0, .ref h), (1, .int (nI p))]) hx hb dX3_agePermitsAt_33 hl (k := 3) rfl (nI_1 _) (by decide) rfl (fun ls hl => ?_)
          refine lv_goto (tgt := 2) hx hb dX3_agePermitsAt_36 (by decide) ?_
          exact ih (i + 1) (by omega) _ _ _ (by rw [show (agL (s_pd S) p (i + 1)) = (upd (agL (s_pd S) p i) (i * 12 + p) (((agL (s_pd S) p i) (i * 12 + p)) - 1)) from by rw [agL_s, if_neg c_3]]; exact hP) (D_of hD stF) hS (lv_sub hl [2, 3, 0] rfl)
  exact loop_2 n6 0 (by omega) _ _ _ hP (D_of hD stF) hS (lv_sub hl [1, 2, 0] rfl)
