/-! the reference: texts, what there is, undo, saving -/
def mcG (y : Nat) : Nat → Nat → Nat
  | 0, i => i
  | k + 1, i => if sh8 y i = 0 then i else if inC (nI (sh8 y i % 256)) 33 126 = 0 then 99 else mcG y k (i + 1)
theorem mcG_s (y k i : Nat) : mcG y (k + 1) i = if sh8 y i = 0 then i else if inC (nI (sh8 y i % 256)) 33 126 = 0 then 99 else mcG y k (i + 1) := rfl
theorem sh8_8 {y : Nat} (h : y < 2 ^ 64) : sh8 y 8 = 0 := Nat.div_eq_of_lt (by omega)
set_option maxHeartbeats 4000000 in
set_option maxRecDepth 100000 in
theorem c_X5_put_bad (l : Launch) (G : va_G) (ca : Nat → ClassId) (h : Nat) (a : Nat → Nat) (M : MM) (y : Nat) (k : Nat) (n : Nat) (hy64 : y < 2 ^ 64) (hk : mcG y 8 0 = k) (hty : m_typed M = nI n) (hn : n ≤ 60) (hk99 : k = 99) : CtI l yX5_put wsX5_put ({ frames := 1, cells := 0, slots := 0, locals := 22 }) [.ref h, .long (lN y)] G ca (moT ca h a M) (moT ca h a M) (-2) := by
  refine CtI.ofW (cc := cX5_put) (maxL := 7) (rt := .int) (by decide) rfl (Nat.le_of_ble_eq_true rfl) rfl ?_
  intro pr en s m be me c A ls Q H hx hb hml hts hown hev hP hD hA hS hl hret
  have hown : s.vm.findClass RX5 = some m.cls := hown
  have hl : lv_has ls 7 [(0, .ref h), (1, .long (lN y))] := hl
  have in_wsX50 : ∀ w ∈ wsX50, w ∈ wsX5_put := fun _ h => List.mem_cons_of_mem _ (List.mem_append_right _ h)
  refine lv_lload_n hx hb dX5_put_0 rfl (lv_at hl 1 rfl) ?_
  refine lv_lstore_n (lv' := [(3, .long (lN y)), (0, .ref h), (1, .long (lN y))]) hx hb dX5_put_1 rfl hl (by decide) rfl (fun ls hl => ?_)
  refine lv_iconst (v := nI 0) hx hb dX5_put_2 (by decide) ?_
  refine lv_istore (lv' := [(5, .int (nI 0)), (3, .long (lN y)), (0, .ref h), (1, .long (lN y))]) hx hb dX5_put_3 hl (by decide) rfl (fun ls hl => ?_)
  have loop_5 : ∀ (fu i : Nat), i + fu = 8 → mcG y fu i = k → ∀ (H : Heap) (locs : List Loc) (ls : Array Slot), va_P G vwCl (moT ca h a M) H → va_D A (moT ca h a M) → va_S A s.heap H locs → lv_has ls 7 [(0, .ref h), (1, .long (lN y)), (3, .long (lN (sh8 y i))), (5, .int (nI i))] → W pr l en ({ frames := 1, cells := 0, slots := 0, locals := 22 } : Room) s m ([.ref h, .long (lN y)] : List Value).toArray be me c H locs 0 0 Q (F0 m 5 ls []) := by
    intro fu
    induction fu with
    | zero =>
      intro i hi hr H locs ls hP hD hS hl
      obtain rfl : i = 8 := by omega
      have hb64 := sh8_le y 8
      have hz8 := sh8_8 hy64
      refine lv_lload_n hx hb dX5_put_5 rfl (lv_at hl 2 rfl) ?_
      refine lv_lconst (v := 0) hx hb dX5_put_6 (by decide) ?_
      refine W.lcmp hx hb dX5_put_7 ?_
      refine lv_if_eq (tgt := 48) hx hb dX5_put_8 (by decide) (fun c_1 => ?_) (fun c_1 => ?_)
      · skip
        have nc_1 : (sh8 y 8) = 0 := (lc_eq (a := (sh8 y 8)) (b := 0) (by omega) (by omega)).mp c_1
        have hki : 8 = k := by first | (rw [← hr]; rfl) | rw [← hr, mcG_s, if_pos (by assumption)]
        exact absurd hki (by omega)
      · skip
        exact absurd ((lc_eq (a := sh8 y 8) (b := 0) (by omega) (by omega)).mpr hz8) c_1
    | succ fu ih =>
      intro i hi hr H locs ls hP hD hS hl
      have hlt : i < 8 := by omega
      have hb64 := sh8_le y i
      refine lv_lload_n hx hb dX5_put_5 rfl (lv_at hl 2 rfl) ?_
      refine lv_lconst (v := 0) hx hb dX5_put_6 (by decide) ?_
      refine W.lcmp hx hb dX5_put_7 ?_
      refine lv_if_eq (tgt := 48) hx hb dX5_put_8 (by decide) (fun c_2 => ?_) (fun c_2 => ?_)
      · skip
        have nc_2 : (sh8 y i) = 0 := (lc_eq (a := (sh8 y i)) (b := 0) (by omega) (by omega)).mp c_2
        have hki : i = k := by first | (rw [← hr]; rfl) | rw [← hr, mcG_s, if_pos (by assumption)]
        exact absurd hki (by omega)
      · skip
        have nc_2 : ¬ (sh8 y i) = 0 := fun q => c_2 ((lc_eq (a := (sh8 y i)) (b := 0) (by omega) (by omega)).mpr q)
        refine lv_iload hx hb dX5_put_11 (lv_at hl 3 rfl) ?_
        refine lv_bipush (v := nI 8) hx hb dX5_put_13 (by decide) ?_
        refine lv_icmp_ge (tgt := 48) hx hb dX5_put_15 (by decide) (fun c_3 => ?_) (fun c_3 => ?_)
        · skip
          exact absurd c_3 (nI_ge (by omega) (by omega))
        · skip
          refine lv_lload_n hx hb dX5_put_18 rfl (lv_at hl 2 rfl) ?_
          refine lv_ldc2 hx hb hown (hts (.constantLong RX5 128 (255)) (List.mem_of_getElem? (i := 1) rfl)) dX5_put_19 ?_
          refine lv_land hx hb dX5_put_22 ?_
          refine lv_eql (y := lN ((sh8 y i) % 256)) (and255L _ (by omega)) ?_
          refine lv_l2i (v := nI ((sh8 y i) % 256)) hx hb dX5_put_23 (lN_i _) ?_
          refine lv_bipush (v := 33) hx hb dX5_put_24 (by decide) ?_
          refine lv_bipush (v := 126) hx hb dX5_put_26 (by decide) ?_
          refine goI0 (va_runS (As := [.int (nI ((sh8 y i) % 256)), .int 33, .int 126]) (rest := []) ⟨hx, hb, hml, hown, hts⟩ (CtI.use (c_X5_in l G ca (nI ((sh8 y i) % 256)) 33 126) H.size) (va_cwS 3 hts gX5_put_X5_in rfl rfl rfl (by decide +kernel) ⟨Nat.le_of_ble_eq_true rfl, Nat.le_of_ble_eq_true rfl⟩) (pcW_S hev P_nil (D_nil (A := A))) rfl rfl hl.1 rfl (lv_room (Nat.le_of_ble_eq_true rfl)) dX5_put_28 ⟨Nat.zero_le _, Nat.zero_le _⟩) hP hS hA (fun H locs hP hS => ?_)
          refine lv_if_ne (tgt := 37) hx hb dX5_put_31 (by decide) (fun c_4 => ?_) (fun c_4 => ?_)
          · skip
            refine lv_lload_n hx hb dX5_put_37 rfl (lv_at hl 2 rfl) ?_
            refine lv_bipush (v := nI 8) hx hb dX5_put_38 (by decide) ?_
            refine lv_lushr (v := lN (sh8 y (i + 1))) hx hb dX5_put_40 ((wb_shr (by omega) (by omega)).trans (congrArg lN (sh8_s y i).symm)) ?_
            refine lv_lstore_n (lv' := [(3, .long (lN (sh8 y (i + 1)))), (0, .ref h), (1, .long (lN y)), (5, .int (nI i))]) hx hb dX5_put_41 rfl hl (by decide) rfl (fun ls hl => ?_)
            refine lv_iinc (v := nI (i + 1)) (lv' := [(5, .int (nI (i + 1))), (3, .long (lN (sh8 y (i + 1)))), (0, .ref h), (1, .long (lN y))]) hx hb dX5_put_42 hl (k := 3) rfl (nI_1 _) (by decide) rfl (fun ls hl => ?_)
            refine lv_goto (tgt := 5) hx hb dX5_put_45 (by decide) ?_
            exact ih (i + 1) (by omega) (by rw [← hr, mcG_s, if_neg (by assumption), if_neg (by assumption)]) _ _ _ hP (D_of hD moF) hS (lv_sub hl [2, 3, 1, 0] rfl)
          · skip
            have hk9 : 99 = k := by rw [← hr, mcG_s, if_neg (by assumption), if_pos (by assumption)]
            refine lv_bipush (v := (-2)) hx hb dX5_put_34 (by decide) ?_
            exact hret _ _ _ _ hP hS dX5_put_36
  exact loop_5 8 0 (by omega) (by exact hk) _ _ _ hP (D_of hD moF) hS (by rw [show (lN (sh8 y 0)) = (lN y) from by rw [sh8_0]]; exact lv_sub hl [2, 3, 1, 0] rfl)
set_option maxHeartbeats 4000000 in
set_option maxRecDepth 100000 in
theorem c_X5_put_none (l : Launch) (G : va_G) (ca : Nat → ClassId) (h : Nat) (a : Nat → Nat) (M : MM) (y : Nat) (k : Nat) (n : Nat) (hy64 : y < 2 ^ 64) (hk : mcG y 8 0 = k) (hty : m_typed M = nI n) (hn : n ≤ 60) (hk0 : k = 0) : CtI l yX5_put wsX5_put ({ frames := 1, cells := 0, slots := 0, locals := 22 }) [.ref h, .long (lN y)] G ca (moT ca h a M) (moT ca h a M) (-2) := by
  refine CtI.ofW (cc := cX5_put) (maxL := 7) (rt := .int) (by decide) rfl (Nat.le_of_ble_eq_true rfl) rfl ?_
  intro pr en s m be me c A ls Q H hx hb hml hts hown hev hP hD hA hS hl hret
  have hown : s.vm.findClass RX5 = some m.cls := hown
  have hl : lv_has ls 7 [(0, .ref h), (1, .long (lN y))] := hl
  have in_wsX50 : ∀ w ∈ wsX50, w ∈ wsX5_put := fun _ h => List.mem_cons_of_mem _ (List.mem_append_right _ h)
  refine lv_lload_n hx hb dX5_put_0 rfl (lv_at hl 1 rfl) ?_
  refine lv_lstore_n (lv' := [(3, .long (lN y)), (0, .ref h), (1, .long (lN y))]) hx hb dX5_put_1 rfl hl (by decide) rfl (fun ls hl => ?_)
  refine lv_iconst (v := nI 0) hx hb dX5_put_2 (by decide) ?_
  refine lv_istore (lv' := [(5, .int (nI 0)), (3, .long (lN y)), (0, .ref h), (1, .long (lN y))]) hx hb dX5_put_3 hl (by decide) rfl (fun ls hl => ?_)
  have loop_5 : ∀ (fu i : Nat), i + fu = 8 → mcG y fu i = k → ∀ (H : Heap) (locs : List Loc) (ls : Array Slot), va_P G vwCl (moT ca h a M) H → va_D A (moT ca h a M) → va_S A s.heap H locs → lv_has ls 7 [(0, .ref h), (1, .long (lN y)), (3, .long (lN (sh8 y i))), (5, .int (nI i))] → W pr l en ({ frames := 1, cells := 0, slots := 0, locals := 22 } : Room) s m ([.ref h, .long (lN y)] : List Value).toArray be me c H locs 0 0 Q (F0 m 5 ls []) := by
    intro fu
    induction fu with
    | zero =>
      intro i hi hr H locs ls hP hD hS hl
      obtain rfl : i = 8 := by omega
      have hb64 := sh8_le y 8
      have hz8 := sh8_8 hy64
      refine lv_lload_n hx hb dX5_put_5 rfl (lv_at hl 2 rfl) ?_
      refine lv_lconst (v := 0) hx hb dX5_put_6 (by decide) ?_
      refine W.lcmp hx hb dX5_put_7 ?_
      refine lv_if_eq (tgt := 48) hx hb dX5_put_8 (by decide) (fun c_1 => ?_) (fun c_1 => ?_)
      · skip
        have nc_1 : (sh8 y 8) = 0 := (lc_eq (a := (sh8 y 8)) (b := 0) (by omega) (by omega)).mp c_1
        have hki : 8 = k := by first | (rw [← hr]; rfl) | rw [← hr, mcG_s, if_pos (by assumption)]
        have hl : lv_has ls 7 [(0, .ref h), (1, .long (lN y)), (5, .int (nI 8))] := lv_sub hl [0, 1, 3] rfl
        rw [hki] at hl
        refine lv_iload hx hb dX5_put_48 (lv_at hl 2 rfl) ?_
        refine lv_if_ne (tgt := 56) hx hb dX5_put_50 (by decide) (fun c_2 => ?_) (fun c_2 => ?_)
        · skip
          exact absurd (by rw [hk0]; rfl) c_2
        · skip
          refine lv_bipush (v := (-2)) hx hb dX5_put_53 (by decide) ?_
          exact hret _ _ _ _ hP hS dX5_put_55
      · skip
        exact absurd ((lc_eq (a := sh8 y 8) (b := 0) (by omega) (by omega)).mpr hz8) c_1
    | succ fu ih =>
      intro i hi hr H locs ls hP hD hS hl
      have hlt : i < 8 := by omega
      have hb64 := sh8_le y i
      refine lv_lload_n hx hb dX5_put_5 rfl (lv_at hl 2 rfl) ?_
      refine lv_lconst (v := 0) hx hb dX5_put_6 (by decide) ?_
      refine W.lcmp hx hb dX5_put_7 ?_
      refine lv_if_eq (tgt := 48) hx hb dX5_put_8 (by decide) (fun c_3 => ?_) (fun c_3 => ?_)
      · skip
        have nc_3 : (sh8 y i) = 0 := (lc_eq (a := (sh8 y i)) (b := 0) (by omega) (by omega)).mp c_3
        have hki : i = k := by first | (rw [← hr]; rfl) | rw [← hr, mcG_s, if_pos (by assumption)]
        have hl : lv_has ls 7 [(0, .ref h), (1, .long (lN y)), (5, .int (nI i))] := lv_sub hl [0, 1, 3] rfl
        rw [hki] at hl
        refine lv_iload hx hb dX5_put_48 (lv_at hl 2 rfl) ?_
        refine lv_if_ne (tgt := 56) hx hb dX5_put_50 (by decide) (fun c_4 => ?_) (fun c_4 => ?_)
        · skip
          exact absurd (by rw [hk0]; rfl) c_4
        · skip
          refine lv_bipush (v := (-2)) hx hb dX5_put_53 (by decide) ?_
          exact hret _ _ _ _ hP hS dX5_put_55
      · skip
        have nc_3 : ¬ (sh8 y i) = 0 := fun q => c_3 ((lc_eq (a := (sh8 y i)) (b := 0) (by omega) (by omega)).mpr q)
        refine lv_iload hx hb dX5_put_11 (lv_at hl 3 rfl) ?_
        refine lv_bipush (v := nI 8) hx hb dX5_put_13 (by decide) ?_
        refine lv_icmp_ge (tgt := 48) hx hb dX5_put_15 (by decide) (fun c_5 => ?_) (fun c_5 => ?_)
        · skip
          exact absurd c_5 (nI_ge (by omega) (by omega))
        · skip
          refine lv_lload_n hx hb dX5_put_18 rfl (lv_at hl 2 rfl) ?_
          refine lv_ldc2 hx hb hown (hts (.constantLong RX5 128 (255)) (List.mem_of_getElem? (i := 1) rfl)) dX5_put_19 ?_
          refine lv_land hx hb dX5_put_22 ?_
          refine lv_eql (y := lN ((sh8 y i) % 256)) (and255L _ (by omega)) ?_
          refine lv_l2i (v := nI ((sh8 y i) % 256)) hx hb dX5_put_23 (lN_i _) ?_
          refine lv_bipush (v := 33) hx hb dX5_put_24 (by decide) ?_
          refine lv_bipush (v := 126) hx hb dX5_put_26 (by decide) ?_
          refine goI0 (va_runS (As := [.int (nI ((sh8 y i) % 256)), .int 33, .int 126]) (rest := []) ⟨hx, hb, hml, hown, hts⟩ (CtI.use (c_X5_in l G ca (nI ((sh8 y i) % 256)) 33 126) H.size) (va_cwS 3 hts gX5_put_X5_in rfl rfl rfl (by decide +kernel) ⟨Nat.le_of_ble_eq_true rfl, Nat.le_of_ble_eq_true rfl⟩) (pcW_S hev P_nil (D_nil (A := A))) rfl rfl hl.1 rfl (lv_room (Nat.le_of_ble_eq_true rfl)) dX5_put_28 ⟨Nat.zero_le _, Nat.zero_le _⟩) hP hS hA (fun H locs hP hS => ?_)
          refine lv_if_ne (tgt := 37) hx hb dX5_put_31 (by decide) (fun c_6 => ?_) (fun c_6 => ?_)
          · skip
            refine lv_lload_n hx hb dX5_put_37 rfl (lv_at hl 2 rfl) ?_
            refine lv_bipush (v := nI 8) hx hb dX5_put_38 (by decide) ?_
            refine lv_lushr (v := lN (sh8 y (i + 1))) hx hb dX5_put_40 ((wb_shr (by omega) (by omega)).trans (congrArg lN (sh8_s y i).symm)) ?_
            refine lv_lstore_n (lv' := [(3, .long (lN (sh8 y (i + 1)))), (0, .ref h), (1, .long (lN y)), (5, .int (nI i))]) hx hb dX5_put_41 rfl hl (by decide) rfl (fun ls hl => ?_)
            refine lv_iinc (v := nI (i + 1)) (lv' := [(5, .int (nI (i + 1))), (3, .long (lN (sh8 y (i + 1)))), (0, .ref h), (1, .long (lN y))]) hx hb dX5_put_42 hl (k := 3) rfl (nI_1 _) (by decide) rfl (fun ls hl => ?_)
            refine lv_goto (tgt := 5) hx hb dX5_put_45 (by decide) ?_
            exact ih (i + 1) (by omega) (by rw [← hr, mcG_s, if_neg (by assumption), if_neg (by assumption)]) _ _ _ hP (D_of hD moF) hS (lv_sub hl [2, 3, 1, 0] rfl)
          · skip
            have hk9 : 99 = k := by rw [← hr, mcG_s, if_neg (by assumption), if_pos (by assumption)]
            exact absurd hk9 (by omega)
  exact loop_5 8 0 (by omega) (by exact hk) _ _ _ hP (D_of hD moF) hS (by rw [show (lN (sh8 y 0)) = (lN y) from by rw [sh8_0]]; exact lv_sub hl [2, 3, 1, 0] rfl)
set_option maxHeartbeats 4000000 in
set_option maxRecDepth 100000 in
theorem c_X5_put_full (l : Launch) (G : va_G) (ca : Nat → ClassId) (h : Nat) (a : Nat → Nat) (M : MM) (y : Nat) (k : Nat) (n : Nat) (hy64 : y < 2 ^ 64) (hk : mcG y 8 0 = k) (hty : m_typed M = nI n) (hn : n ≤ 60) (hk0 : 0 < k) (hk8 : k ≤ 8) (hkf : 60 < n + k) : CtI l yX5_put wsX5_put ({ frames := 1, cells := 0, slots := 0, locals := 22 }) [.ref h, .long (lN y)] G ca (moT ca h a M) (moT ca h a M) (-4) := by
  refine CtI.ofW (cc := cX5_put) (maxL := 7) (rt := .int) (by decide) rfl (Nat.le_of_ble_eq_true rfl) rfl ?_
  intro pr en s m be me c A ls Q H hx hb hml hts hown hev hP hD hA hS hl hret
  have hown : s.vm.findClass RX5 = some m.cls := hown
  have hl : lv_has ls 7 [(0, .ref h), (1, .long (lN y))] := hl
  have in_wsX50 : ∀ w ∈ wsX50, w ∈ wsX5_put := fun _ h => List.mem_cons_of_mem _ (List.mem_append_right _ h)
  refine lv_lload_n hx hb dX5_put_0 rfl (lv_at hl 1 rfl) ?_
  refine lv_lstore_n (lv' := [(3, .long (lN y)), (0, .ref h), (1, .long (lN y))]) hx hb dX5_put_1 rfl hl (by decide) rfl (fun ls hl => ?_)
  refine lv_iconst (v := nI 0) hx hb dX5_put_2 (by decide) ?_
  refine lv_istore (lv' := [(5, .int (nI 0)), (3, .long (lN y)), (0, .ref h), (1, .long (lN y))]) hx hb dX5_put_3 hl (by decide) rfl (fun ls hl => ?_)
  have loop_5 : ∀ (fu i : Nat), i + fu = 8 → mcG y fu i = k → ∀ (H : Heap) (locs : List Loc) (ls : Array Slot), va_P G vwCl (moT ca h a M) H → va_D A (moT ca h a M) → va_S A s.heap H locs → lv_has ls 7 [(0, .ref h), (1, .long (lN y)), (3, .long (lN (sh8 y i))), (5, .int (nI i))] → W pr l en ({ frames := 1, cells := 0, slots := 0, locals := 22 } : Room) s m ([.ref h, .long (lN y)] : List Value).toArray be me c H locs 0 0 Q (F0 m 5 ls []) := by
    intro fu
    induction fu with
    | zero =>
      intro i hi hr H locs ls hP hD hS hl
      obtain rfl : i = 8 := by omega
      have hb64 := sh8_le y 8
      have hz8 := sh8_8 hy64
      refine lv_lload_n hx hb dX5_put_5 rfl (lv_at hl 2 rfl) ?_
      refine lv_lconst (v := 0) hx hb dX5_put_6 (by decide) ?_
      refine W.lcmp hx hb dX5_put_7 ?_
      refine lv_if_eq (tgt := 48) hx hb dX5_put_8 (by decide) (fun c_1 => ?_) (fun c_1 => ?_)
      · skip
        have nc_1 : (sh8 y 8) = 0 := (lc_eq (a := (sh8 y 8)) (b := 0) (by omega) (by omega)).mp c_1
        have hki : 8 = k := by first | (rw [← hr]; rfl) | rw [← hr, mcG_s, if_pos (by assumption)]
        have hl : lv_has ls 7 [(0, .ref h), (1, .long (lN y)), (5, .int (nI 8))] := lv_sub hl [0, 1, 3] rfl
        rw [hki] at hl
        refine lv_iload hx hb dX5_put_48 (lv_at hl 2 rfl) ?_
        refine lv_if_ne (tgt := 56) hx hb dX5_put_50 (by decide) (fun c_2 => ?_) (fun c_2 => ?_)
        · skip
          refine lv_aload_n hx hb dX5_put_56 rfl (lv_at hl 0 rfl) ?_
          refine va_get (D := G) (ci := 5) (v := .int (m_typed M)) (C := RX5) (T := TX5) (N := 10) hx hb hts in_wsX50 hown hev.1 hP 0 rfl rfl 6 (by decide) (hts (.fieldLink RX5 130 "PuddleMinistriesModel" "typed" "I") (List.mem_of_getElem? (i := 2) rfl)) (fun _ h9 => h9) rfl dX5_put_57 ?_
          refine lv_eqi hty ?_
          refine lv_iload hx hb dX5_put_60 (lv_at hl 2 rfl) ?_
          refine lv_iadd hx hb dX5_put_62 ?_
          refine lv_eqi (nI_add _ _) ?_
          refine lv_bipush (v := nI 60) hx hb dX5_put_63 (by decide) ?_
          refine lv_icmp_le (tgt := 71) hx hb dX5_put_65 (by decide) (fun c_3 => ?_) (fun c_3 => ?_)
          · skip
            exact absurd c_3 (nI_ge (by omega) (by omega))
          · skip
            refine lv_bipush (v := (-4)) hx hb dX5_put_68 (by decide) ?_
            exact hret _ _ _ _ hP hS dX5_put_70
        · skip
          exact absurd c_2 (nI_ne0 hk0 (by omega))
      · skip
        exact absurd ((lc_eq (a := sh8 y 8) (b := 0) (by omega) (by omega)).mpr hz8) c_1
    | succ fu ih =>
      intro i hi hr H locs ls hP hD hS hl
      have hlt : i < 8 := by omega
      have hb64 := sh8_le y i
      refine lv_lload_n hx hb dX5_put_5 rfl (lv_at hl 2 rfl) ?_
      refine lv_lconst (v := 0) hx hb dX5_put_6 (by decide) ?_
      refine W.lcmp hx hb dX5_put_7 ?_
      refine lv_if_eq (tgt := 48) hx hb dX5_put_8 (by decide) (fun c_4 => ?_) (fun c_4 => ?_)
      · skip
        have nc_4 : (sh8 y i) = 0 := (lc_eq (a := (sh8 y i)) (b := 0) (by omega) (by omega)).mp c_4
        have hki : i = k := by first | (rw [← hr]; rfl) | rw [← hr, mcG_s, if_pos (by assumption)]
        have hl : lv_has ls 7 [(0, .ref h), (1, .long (lN y)), (5, .int (nI i))] := lv_sub hl [0, 1, 3] rfl
        rw [hki] at hl
        refine lv_iload hx hb dX5_put_48 (lv_at hl 2 rfl) ?_
        refine lv_if_ne (tgt := 56) hx hb dX5_put_50 (by decide) (fun c_5 => ?_) (fun c_5 => ?_)
        · skip
          refine lv_aload_n hx hb dX5_put_56 rfl (lv_at hl 0 rfl) ?_
          refine va_get (D := G) (ci := 5) (v := .int (m_typed M)) (C := RX5) (T := TX5) (N := 10) hx hb hts in_wsX50 hown hev.1 hP 0 rfl rfl 6 (by decide) (hts (.fieldLink RX5 130 "PuddleMinistriesModel" "typed" "I") (List.mem_of_getElem? (i := 2) rfl)) (fun _ h9 => h9) rfl dX5_put_57 ?_
          refine lv_eqi hty ?_
          refine lv_iload hx hb dX5_put_60 (lv_at hl 2 rfl) ?_
          refine lv_iadd hx hb dX5_put_62 ?_
          refine lv_eqi (nI_add _ _) ?_
          refine lv_bipush (v := nI 60) hx hb dX5_put_63 (by decide) ?_
          refine lv_icmp_le (tgt := 71) hx hb dX5_put_65 (by decide) (fun c_6 => ?_) (fun c_6 => ?_)
          · skip
            exact absurd c_6 (nI_ge (by omega) (by omega))
          · skip
            refine lv_bipush (v := (-4)) hx hb dX5_put_68 (by decide) ?_
            exact hret _ _ _ _ hP hS dX5_put_70
        · skip
          exact absurd c_5 (nI_ne0 hk0 (by omega))
      · skip
        have nc_4 : ¬ (sh8 y i) = 0 := fun q => c_4 ((lc_eq (a := (sh8 y i)) (b := 0) (by omega) (by omega)).mpr q)
        refine lv_iload hx hb dX5_put_11 (lv_at hl 3 rfl) ?_
        refine lv_bipush (v := nI 8) hx hb dX5_put_13 (by decide) ?_
        refine lv_icmp_ge (tgt := 48) hx hb dX5_put_15 (by decide) (fun c_7 => ?_) (fun c_7 => ?_)
        · skip
          exact absurd c_7 (nI_ge (by omega) (by omega))
        · skip
          refine lv_lload_n hx hb dX5_put_18 rfl (lv_at hl 2 rfl) ?_
          refine lv_ldc2 hx hb hown (hts (.constantLong RX5 128 (255)) (List.mem_of_getElem? (i := 1) rfl)) dX5_put_19 ?_
          refine lv_land hx hb dX5_put_22 ?_
          refine lv_eql (y := lN ((sh8 y i) % 256)) (and255L _ (by omega)) ?_
          refine lv_l2i (v := nI ((sh8 y i) % 256)) hx hb dX5_put_23 (lN_i _) ?_
          refine lv_bipush (v := 33) hx hb dX5_put_24 (by decide) ?_
          refine lv_bipush (v := 126) hx hb dX5_put_26 (by decide) ?_
          refine goI0 (va_runS (As := [.int (nI ((sh8 y i) % 256)), .int 33, .int 126]) (rest := []) ⟨hx, hb, hml, hown, hts⟩ (CtI.use (c_X5_in l G ca (nI ((sh8 y i) % 256)) 33 126) H.size) (va_cwS 3 hts gX5_put_X5_in rfl rfl rfl (by decide +kernel) ⟨Nat.le_of_ble_eq_true rfl, Nat.le_of_ble_eq_true rfl⟩) (pcW_S hev P_nil (D_nil (A := A))) rfl rfl hl.1 rfl (lv_room (Nat.le_of_ble_eq_true rfl)) dX5_put_28 ⟨Nat.zero_le _, Nat.zero_le _⟩) hP hS hA (fun H locs hP hS => ?_)
          refine lv_if_ne (tgt := 37) hx hb dX5_put_31 (by decide) (fun c_8 => ?_) (fun c_8 => ?_)
          · skip
            refine lv_lload_n hx hb dX5_put_37 rfl (lv_at hl 2 rfl) ?_
            refine lv_bipush (v := nI 8) hx hb dX5_put_38 (by decide) ?_
            refine lv_lushr (v := lN (sh8 y (i + 1))) hx hb dX5_put_40 ((wb_shr (by omega) (by omega)).trans (congrArg lN (sh8_s y i).symm)) ?_
            refine lv_lstore_n (lv' := [(3, .long (lN (sh8 y (i + 1)))), (0, .ref h), (1, .long (lN y)), (5, .int (nI i))]) hx hb dX5_put_41 rfl hl (by decide) rfl (fun ls hl => ?_)
            refine lv_iinc (v := nI (i + 1)) (lv' := [(5, .int (nI (i + 1))), (3, .long (lN (sh8 y (i + 1)))), (0, .ref h), (1, .long (lN y))]) hx hb dX5_put_42 hl (k := 3) rfl (nI_1 _) (by decide) rfl (fun ls hl => ?_)
            refine lv_goto (tgt := 5) hx hb dX5_put_45 (by decide) ?_
            exact ih (i + 1) (by omega) (by rw [← hr, mcG_s, if_neg (by assumption), if_neg (by assumption)]) _ _ _ hP (D_of hD moF) hS (lv_sub hl [2, 3, 1, 0] rfl)
          · skip
            have hk9 : 99 = k := by rw [← hr, mcG_s, if_neg (by assumption), if_pos (by assumption)]
            exact absurd hk9 (by omega)
  exact loop_5 8 0 (by omega) (by exact hk) _ _ _ hP (D_of hD moF) hS (by rw [show (lN (sh8 y 0)) = (lN y) from by rw [sh8_0]]; exact lv_sub hl [2, 3, 1, 0] rfl)
set_option maxHeartbeats 4000000 in
set_option maxRecDepth 100000 in
theorem c_X5_put_ok (l : Launch) (G : va_G) (ca : Nat → ClassId) (h : Nat) (a : Nat → Nat) (M : MM) (y : Nat) (k : Nat) (n : Nat) (hy64 : y < 2 ^ 64) (hk : mcG y 8 0 = k) (hty : m_typed M = nI n) (hn : n ≤ 60) (hk0 : 0 < k) (hk8 : k ≤ 8) (hkf : n + k ≤ 60) : CtI l yX5_put wsX5_put ({ frames := 1, cells := 0, slots := 0, locals := 22 }) [.ref h, .long (lN y)] G ca (moT ca h a M) (moT ca h a (m_z M, m_past M, m_states M, m_slots M, m_isSaved M, apL (m_pad M) n y k k, nI (n + k), m_spot M, m_told M, m_toldMany M)) (nI (n + k)) := by
  refine CtI.ofW (cc := cX5_put) (maxL := 7) (rt := .int) (by decide) rfl (Nat.le_of_ble_eq_true rfl) rfl ?_
  intro pr en s m be me c A ls Q H hx hb hml hts hown hev hP hD hA hS hl hret
  have hown : s.vm.findClass RX5 = some m.cls := hown
  have hl : lv_has ls 7 [(0, .ref h), (1, .long (lN y))] := hl
  have in_wsX50 : ∀ w ∈ wsX50, w ∈ wsX5_put := fun _ h => List.mem_cons_of_mem _ (List.mem_append_right _ h)
  refine lv_lload_n hx hb dX5_put_0 rfl (lv_at hl 1 rfl) ?_
  refine lv_lstore_n (lv' := [(3, .long (lN y)), (0, .ref h), (1, .long (lN y))]) hx hb dX5_put_1 rfl hl (by decide) rfl (fun ls hl => ?_)
  refine lv_iconst (v := nI 0) hx hb dX5_put_2 (by decide) ?_
  refine lv_istore (lv' := [(5, .int (nI 0)), (3, .long (lN y)), (0, .ref h), (1, .long (lN y))]) hx hb dX5_put_3 hl (by decide) rfl (fun ls hl => ?_)
  have loop_5 : ∀ (fu i : Nat), i + fu = 8 → mcG y fu i = k → ∀ (H : Heap) (locs : List Loc) (ls : Array Slot), va_P G vwCl (moT ca h a M) H → va_D A (moT ca h a M) → va_S A s.heap H locs → lv_has ls 7 [(0, .ref h), (1, .long (lN y)), (3, .long (lN (sh8 y i))), (5, .int (nI i))] → W pr l en ({ frames := 1, cells := 0, slots := 0, locals := 22 } : Room) s m ([.ref h, .long (lN y)] : List Value).toArray be me c H locs 0 0 Q (F0 m 5 ls []) := by
    intro fu
    induction fu with
    | zero =>
      intro i hi hr H locs ls hP hD hS hl
      obtain rfl : i = 8 := by omega
      have hb64 := sh8_le y 8
      have hz8 := sh8_8 hy64
      refine lv_lload_n hx hb dX5_put_5 rfl (lv_at hl 2 rfl) ?_
      refine lv_lconst (v := 0) hx hb dX5_put_6 (by decide) ?_
      refine W.lcmp hx hb dX5_put_7 ?_
      refine lv_if_eq (tgt := 48) hx hb dX5_put_8 (by decide) (fun c_1 => ?_) (fun c_1 => ?_)
      · skip
        have nc_1 : (sh8 y 8) = 0 := (lc_eq (a := (sh8 y 8)) (b := 0) (by omega) (by omega)).mp c_1
        have hki : 8 = k := by first | (rw [← hr]; rfl) | rw [← hr, mcG_s, if_pos (by assumption)]
        have hl : lv_has ls 7 [(0, .ref h), (1, .long (lN y)), (5, .int (nI 8))] := lv_sub hl [0, 1, 3] rfl
        rw [hki] at hl
        refine lv_iload hx hb dX5_put_48 (lv_at hl 2 rfl) ?_
        refine lv_if_ne (tgt := 56) hx hb dX5_put_50 (by decide) (fun c_2 => ?_) (fun c_2 => ?_)
        · skip
          refine lv_aload_n hx hb dX5_put_56 rfl (lv_at hl 0 rfl) ?_
          refine va_get (D := G) (ci := 5) (v := .int (m_typed M)) (C := RX5) (T := TX5) (N := 10) hx hb hts in_wsX50 hown hev.1 hP 0 rfl rfl 6 (by decide) (hts (.fieldLink RX5 130 "PuddleMinistriesModel" "typed" "I") (List.mem_of_getElem? (i := 2) rfl)) (fun _ h9 => h9) rfl dX5_put_57 ?_
          refine lv_eqi hty ?_
          refine lv_iload hx hb dX5_put_60 (lv_at hl 2 rfl) ?_
          refine lv_iadd hx hb dX5_put_62 ?_
          refine lv_eqi (nI_add _ _) ?_
          refine lv_bipush (v := nI 60) hx hb dX5_put_63 (by decide) ?_
          refine lv_icmp_le (tgt := 71) hx hb dX5_put_65 (by decide) (fun c_3 => ?_) (fun c_3 => ?_)
          · skip
            refine lv_iload hx hb dX5_put_71 (lv_at hl 2 rfl) ?_
            refine lv_iconst (v := 1) hx hb dX5_put_73 (by decide) ?_
            refine lv_isub hx hb dX5_put_74 ?_
            refine lv_istore (lv' := [(6, .int ((nI k) - 1)), (0, .ref h), (1, .long (lN y)), (5, .int (nI k))]) hx hb dX5_put_75 hl (by decide) rfl (fun ls hl => ?_)
            have loop_77 : ∀ (q i : Nat), i + q = k → ∀ (H : Heap) (locs : List Loc) (ls : Array Slot), va_P G vwCl (moT ca h a (m_z M, m_past M, m_states M, m_slots M, m_isSaved M, apL (m_pad M) n y k i, nI (n + i), m_spot M, m_told M, m_toldMany M)) H → va_D A (moT ca h a (m_z M, m_past M, m_states M, m_slots M, m_isSaved M, apL (m_pad M) n y k i, nI (n + i), m_spot M, m_told M, m_toldMany M)) → va_S A s.heap H locs → lv_has ls 7 [(0, .ref h), (1, .long (lN y)), (5, .int (nI k)), (6, .int (nI (k - i) - 1))] → W pr l en ({ frames := 1, cells := 0, slots := 0, locals := 22 } : Room) s m ([.ref h, .long (lN y)] : List Value).toArray be me c H locs 0 0 Q (F0 m 77 ls []) := by
              intro q
              induction q with
              | zero =>
                intro i hi H locs ls hP hD hS hl
                obtain rfl : k = i := by omega
                refine lv_iload hx hb dX5_put_77 (lv_at hl 3 rfl) ?_
                refine lv_if_lt (tgt := 119) hx hb dX5_put_79 (by decide) (fun c_4 => ?_) (fun c_4 => ?_)
                · skip
                  refine lv_aload_n hx hb dX5_put_119 rfl (lv_at hl 0 rfl) ?_
                  refine va_get (D := G) (ci := 5) (v := .int (nI (n + k))) (C := RX5) (T := TX5) (N := 10) hx hb hts in_wsX50 hown hev.1 hP 0 rfl rfl 6 (by decide) (hts (.fieldLink RX5 130 "PuddleMinistriesModel" "typed" "I") (List.mem_of_getElem? (i := 2) rfl)) (fun _ h9 => h9) rfl dX5_put_120 ?_
                  exact hret _ _ _ _ hP hS dX5_put_123
                · skip
                  exact absurd (by rw [Nat.sub_self]; decide) c_4
              | succ q ih =>
                intro i hi H locs ls hP hD hS hl
                have hlt : i < k := by omega
                have hb64 := sh8_le y (k - i - 1)
                refine lv_iload hx hb dX5_put_77 (lv_at hl 3 rfl) ?_
                refine lv_if_lt (tgt := 119) hx hb dX5_put_79 (by decide) (fun c_5 => ?_) (fun c_5 => ?_)
                · skip
                  exact absurd c_5 (by rw [pred_nI (by omega)]; exact nI_pos (by omega))
                · skip
                  refine lv_aload_n hx hb dX5_put_82 rfl (lv_at hl 0 rfl) ?_
                  refine va_get (D := G) (ci := 5) (v := .ref (a 4)) (C := RX5) (T := TX5) (N := 10) hx hb hts in_wsX50 hown hev.1 hP 0 rfl rfl 5 (by decide) (hts (.fieldLink RX5 23 "PuddleMinistriesModel" "pad" "[I") (List.mem_of_getElem? (i := 3) rfl)) (fun _ h9 => h9) rfl dX5_put_83 ?_
                  refine lv_aload_n hx hb dX5_put_86 rfl (lv_at hl 0 rfl) ?_
                  refine va_get (D := G) (ci := 5) (v := .int (nI (n + i))) (C := RX5) (T := TX5) (N := 10) hx hb hts in_wsX50 hown hev.1 hP 0 rfl rfl 6 (by decide) (hts (.fieldLink RX5 130 "PuddleMinistriesModel" "typed" "I") (List.mem_of_getElem? (i := 2) rfl)) (fun _ h9 => h9) rfl dX5_put_87 ?_
                  refine lv_lload_n hx hb dX5_put_90 rfl (lv_at hl 1 rfl) ?_
                  refine lv_bipush (v := nI 8) hx hb dX5_put_91 (by decide) ?_
                  refine lv_iload hx hb dX5_put_93 (lv_at hl 3 rfl) ?_
                  refine lv_eqi (pred_nI (by omega)) ?_
                  refine lv_imul hx hb dX5_put_95 ?_
                  refine lv_eqi (pk_mul _ _) ?_
                  refine lv_lushr (v := lN (sh8 y (k - i - 1))) hx hb dX5_put_96 (wb_shr hy64 (by omega)) ?_
                  refine lv_ldc2 hx hb hown (hts (.constantLong RX5 128 (255)) (List.mem_of_getElem? (i := 1) rfl)) dX5_put_97 ?_
                  refine lv_land hx hb dX5_put_100 ?_
                  refine lv_eql (y := lN ((sh8 y (k - i - 1)) % 256)) (and255L _ (by omega)) ?_
                  refine lv_l2i (v := nI ((sh8 y (k - i - 1)) % 256)) hx hb dX5_put_101 (lN_i _) ?_
                  refine b_iast hx hb hev.1 hP hD hS 5 rfl rfl (j := (n + i)) (by omega) (by decide) dX5_put_102 (fun H locs hP hD hS => ?_)
                  have hP : va_P G vwCl (moT ca h a (m_z M, m_past M, m_states M, m_slots M, m_isSaved M, upd (apL (m_pad M) n y k i) (n + i) (nI ((sh8 y (k - i - 1)) % 256)), nI (n + i), m_spot M, m_told M, m_toldMany M)) H := hP
                  have hD : va_D A (moT ca h a (m_z M, m_past M, m_states M, m_slots M, m_isSaved M, upd (apL (m_pad M) n y k i) (n + i) (nI ((sh8 y (k - i - 1)) % 256)), nI (n + i), m_spot M, m_told M, m_toldMany M)) := hD
                  refine lv_aload_n hx hb dX5_put_103 rfl (lv_at hl 0 rfl) ?_
                  refine lv_dup hx hb dX5_put_104 rfl ?_
                  refine va_get (D := G) (ci := 5) (v := .int (nI (n + i))) (C := RX5) (T := TX5) (N := 10) hx hb hts in_wsX50 hown hev.1 hP 0 rfl rfl 6 (by decide) (hts (.fieldLink RX5 130 "PuddleMinistriesModel" "typed" "I") (List.mem_of_getElem? (i := 2) rfl)) (fun _ h9 => h9) rfl dX5_put_105 ?_
                  refine lv_iconst (v := nI 1) hx hb dX5_put_108 (by decide) ?_
                  refine lv_iadd hx hb dX5_put_109 ?_
                  refine lv_eqi (nI_add _ _) ?_
                  refine va_put (D := G) (ci := 5) (v := .int (nI ((n + i) + 1))) (ty := .int) (C := RX5) (T := TX5) (N := 10) hx hb hts in_wsX50 tyX5 tyX5_ok nmX5 hown hev.1 hP hD hS 0 rfl rfl 6 (by decide) (hts (.fieldLink RX5 130 "PuddleMinistriesModel" "typed" "I") (List.mem_of_getElem? (i := 2) rfl)) (fun _ h9 => h9) rfl (by decide +kernel) rfl rfl (Nat.le_of_ble_eq_true rfl) dX5_put_110 (fun H locs hP hD hS => ?_)
                  have hP : va_P G vwCl (moT ca h a (m_z M, m_past M, m_states M, m_slots M, m_isSaved M, upd (apL (m_pad M) n y k i) (n + i) (nI ((sh8 y (k - i - 1)) % 256)), nI ((n + i) + 1), m_spot M, m_told M, m_toldMany M)) H := hP
                  have hD : va_D A (moT ca h a (m_z M, m_past M, m_states M, m_slots M, m_isSaved M, upd (apL (m_pad M) n y k i) (n + i) (nI ((sh8 y (k - i - 1)) % 256)), nI ((n + i) + 1), m_spot M, m_told M, m_toldMany M)) := hD
                  refine lv_iinc (v := (nI (k - i) - 1) + (-1)) (lv' := [(6, .int ((nI (k - i) - 1) + (-1))), (0, .ref h), (1, .long (lN y)), (5, .int (nI k))]) hx hb dX5_put_113 hl (k := 3) rfl (rfl) (by decide) rfl (fun ls hl => ?_)
                  refine lv_goto (tgt := 77) hx hb dX5_put_116 (by decide) ?_
                  exact ih (i + 1) (by omega) _ _ _ (by rw [show (apL (m_pad M) n y k (i + 1)) = (upd (apL (m_pad M) n y k i) (n + i) (nI ((sh8 y (k - i - 1)) % 256))) from by first | rfl | exact (nI_1 _).symm, show (nI (n + (i + 1))) = (nI ((n + i) + 1)) from by first | rfl | exact (nI_1 _).symm]; exact hP) (D_of hD moF) hS (by rw [show (nI (k - (i + 1)) - 1) = ((nI (k - i) - 1) + (-1)) from by exact back_nI hlt]; exact lv_sub hl [1, 2, 3, 0] rfl)
            exact loop_77 k 0 (by omega) _ _ _ (by rw [show (apL (m_pad M) n y k 0) = (m_pad M) from by first | rfl | exact hty.symm, show (nI (n + 0)) = (m_typed M) from by first | rfl | exact hty.symm]; exact hP) (D_of hD moF) hS (lv_sub hl [1, 2, 3, 0] rfl)
          · skip
            exact absurd (nI_le (by omega) (by omega)) c_3
        · skip
          exact absurd c_2 (nI_ne0 hk0 (by omega))
      · skip
        exact absurd ((lc_eq (a := sh8 y 8) (b := 0) (by omega) (by omega)).mpr hz8) c_1
    | succ fu ih =>
      intro i hi hr H locs ls hP hD hS hl
      have hlt : i < 8 := by omega
      have hb64 := sh8_le y i
      refine lv_lload_n hx hb dX5_put_5 rfl (lv_at hl 2 rfl) ?_
      refine lv_lconst (v := 0) hx hb dX5_put_6 (by decide) ?_
      refine W.lcmp hx hb dX5_put_7 ?_
      refine lv_if_eq (tgt := 48) hx hb dX5_put_8 (by decide) (fun c_6 => ?_) (fun c_6 => ?_)
      · skip
        have nc_6 : (sh8 y i) = 0 := (lc_eq (a := (sh8 y i)) (b := 0) (by omega) (by omega)).mp c_6
        have hki : i = k := by first | (rw [← hr]; rfl) | rw [← hr, mcG_s, if_pos (by assumption)]
        have hl : lv_has ls 7 [(0, .ref h), (1, .long (lN y)), (5, .int (nI i))] := lv_sub hl [0, 1, 3] rfl
        rw [hki] at hl
        refine lv_iload hx hb dX5_put_48 (lv_at hl 2 rfl) ?_
        refine lv_if_ne (tgt := 56) hx hb dX5_put_50 (by decide) (fun c_7 => ?_) (fun c_7 => ?_)
        · skip
          refine lv_aload_n hx hb dX5_put_56 rfl (lv_at hl 0 rfl) ?_
          refine va_get (D := G) (ci := 5) (v := .int (m_typed M)) (C := RX5) (T := TX5) (N := 10) hx hb hts in_wsX50 hown hev.1 hP 0 rfl rfl 6 (by decide) (hts (.fieldLink RX5 130 "PuddleMinistriesModel" "typed" "I") (List.mem_of_getElem? (i := 2) rfl)) (fun _ h9 => h9) rfl dX5_put_57 ?_
          refine lv_eqi hty ?_
          refine lv_iload hx hb dX5_put_60 (lv_at hl 2 rfl) ?_
          refine lv_iadd hx hb dX5_put_62 ?_
          refine lv_eqi (nI_add _ _) ?_
          refine lv_bipush (v := nI 60) hx hb dX5_put_63 (by decide) ?_
          refine lv_icmp_le (tgt := 71) hx hb dX5_put_65 (by decide) (fun c_8 => ?_) (fun c_8 => ?_)
          · skip
            refine lv_iload hx hb dX5_put_71 (lv_at hl 2 rfl) ?_
            refine lv_iconst (v := 1) hx hb dX5_put_73 (by decide) ?_
            refine lv_isub hx hb dX5_put_74 ?_
            refine lv_istore (lv' := [(6, .int ((nI k) - 1)), (0, .ref h), (1, .long (lN y)), (5, .int (nI k))]) hx hb dX5_put_75 hl (by decide) rfl (fun ls hl => ?_)
            have loop_77 : ∀ (q i : Nat), i + q = k → ∀ (H : Heap) (locs : List Loc) (ls : Array Slot), va_P G vwCl (moT ca h a (m_z M, m_past M, m_states M, m_slots M, m_isSaved M, apL (m_pad M) n y k i, nI (n + i), m_spot M, m_told M, m_toldMany M)) H → va_D A (moT ca h a (m_z M, m_past M, m_states M, m_slots M, m_isSaved M, apL (m_pad M) n y k i, nI (n + i), m_spot M, m_told M, m_toldMany M)) → va_S A s.heap H locs → lv_has ls 7 [(0, .ref h), (1, .long (lN y)), (5, .int (nI k)), (6, .int (nI (k - i) - 1))] → W pr l en ({ frames := 1, cells := 0, slots := 0, locals := 22 } : Room) s m ([.ref h, .long (lN y)] : List Value).toArray be me c H locs 0 0 Q (F0 m 77 ls []) := by
              intro q
              induction q with
              | zero =>
                intro i hi H locs ls hP hD hS hl
                obtain rfl : k = i := by omega
                refine lv_iload hx hb dX5_put_77 (lv_at hl 3 rfl) ?_
                refine lv_if_lt (tgt := 119) hx hb dX5_put_79 (by decide) (fun c_9 => ?_) (fun c_9 => ?_)
                · skip
                  refine lv_aload_n hx hb dX5_put_119 rfl (lv_at hl 0 rfl) ?_
                  refine va_get (D := G) (ci := 5) (v := .int (nI (n + k))) (C := RX5) (T := TX5) (N := 10) hx hb hts in_wsX50 hown hev.1 hP 0 rfl rfl 6 (by decide) (hts (.fieldLink RX5 130 "PuddleMinistriesModel" "typed" "I") (List.mem_of_getElem? (i := 2) rfl)) (fun _ h9 => h9) rfl dX5_put_120 ?_
                  exact hret _ _ _ _ hP hS dX5_put_123
                · skip
                  exact absurd (by rw [Nat.sub_self]; decide) c_9
              | succ q ih =>
                intro i hi H locs ls hP hD hS hl
                have hlt : i < k := by omega
                have hb64 := sh8_le y (k - i - 1)
                refine lv_iload hx hb dX5_put_77 (lv_at hl 3 rfl) ?_
                refine lv_if_lt (tgt := 119) hx hb dX5_put_79 (by decide) (fun c_10 => ?_) (fun c_10 => ?_)
                · skip
                  exact absurd c_10 (by rw [pred_nI (by omega)]; exact nI_pos (by omega))
                · skip
                  refine lv_aload_n hx hb dX5_put_82 rfl (lv_at hl 0 rfl) ?_
                  refine va_get (D := G) (ci := 5) (v := .ref (a 4)) (C := RX5) (T := TX5) (N := 10) hx hb hts in_wsX50 hown hev.1 hP 0 rfl rfl 5 (by decide) (hts (.fieldLink RX5 23 "PuddleMinistriesModel" "pad" "[I") (List.mem_of_getElem? (i := 3) rfl)) (fun _ h9 => h9) rfl dX5_put_83 ?_
                  refine lv_aload_n hx hb dX5_put_86 rfl (lv_at hl 0 rfl) ?_
                  refine va_get (D := G) (ci := 5) (v := .int (nI (n + i))) (C := RX5) (T := TX5) (N := 10) hx hb hts in_wsX50 hown hev.1 hP 0 rfl rfl 6 (by decide) (hts (.fieldLink RX5 130 "PuddleMinistriesModel" "typed" "I") (List.mem_of_getElem? (i := 2) rfl)) (fun _ h9 => h9) rfl dX5_put_87 ?_
                  refine lv_lload_n hx hb dX5_put_90 rfl (lv_at hl 1 rfl) ?_
                  refine lv_bipush (v := nI 8) hx hb dX5_put_91 (by decide) ?_
                  refine lv_iload hx hb dX5_put_93 (lv_at hl 3 rfl) ?_
                  refine lv_eqi (pred_nI (by omega)) ?_
                  refine lv_imul hx hb dX5_put_95 ?_
                  refine lv_eqi (pk_mul _ _) ?_
                  refine lv_lushr (v := lN (sh8 y (k - i - 1))) hx hb dX5_put_96 (wb_shr hy64 (by omega)) ?_
                  refine lv_ldc2 hx hb hown (hts (.constantLong RX5 128 (255)) (List.mem_of_getElem? (i := 1) rfl)) dX5_put_97 ?_
                  refine lv_land hx hb dX5_put_100 ?_
                  refine lv_eql (y := lN ((sh8 y (k - i - 1)) % 256)) (and255L _ (by omega)) ?_
                  refine lv_l2i (v := nI ((sh8 y (k - i - 1)) % 256)) hx hb dX5_put_101 (lN_i _) ?_
                  refine b_iast hx hb hev.1 hP hD hS 5 rfl rfl (j := (n + i)) (by omega) (by decide) dX5_put_102 (fun H locs hP hD hS => ?_)
                  have hP : va_P G vwCl (moT ca h a (m_z M, m_past M, m_states M, m_slots M, m_isSaved M, upd (apL (m_pad M) n y k i) (n + i) (nI ((sh8 y (k - i - 1)) % 256)), nI (n + i), m_spot M, m_told M, m_toldMany M)) H := hP
                  have hD : va_D A (moT ca h a (m_z M, m_past M, m_states M, m_slots M, m_isSaved M, upd (apL (m_pad M) n y k i) (n + i) (nI ((sh8 y (k - i - 1)) % 256)), nI (n + i), m_spot M, m_told M, m_toldMany M)) := hD
                  refine lv_aload_n hx hb dX5_put_103 rfl (lv_at hl 0 rfl) ?_
                  refine lv_dup hx hb dX5_put_104 rfl ?_
                  refine va_get (D := G) (ci := 5) (v := .int (nI (n + i))) (C := RX5) (T := TX5) (N := 10) hx hb hts in_wsX50 hown hev.1 hP 0 rfl rfl 6 (by decide) (hts (.fieldLink RX5 130 "PuddleMinistriesModel" "typed" "I") (List.mem_of_getElem? (i := 2) rfl)) (fun _ h9 => h9) rfl dX5_put_105 ?_
                  refine lv_iconst (v := nI 1) hx hb dX5_put_108 (by decide) ?_
                  refine lv_iadd hx hb dX5_put_109 ?_
                  refine lv_eqi (nI_add _ _) ?_
                  refine va_put (D := G) (ci := 5) (v := .int (nI ((n + i) + 1))) (ty := .int) (C := RX5) (T := TX5) (N := 10) hx hb hts in_wsX50 tyX5 tyX5_ok nmX5 hown hev.1 hP hD hS 0 rfl rfl 6 (by decide) (hts (.fieldLink RX5 130 "PuddleMinistriesModel" "typed" "I") (List.mem_of_getElem? (i := 2) rfl)) (fun _ h9 => h9) rfl (by decide +kernel) rfl rfl (Nat.le_of_ble_eq_true rfl) dX5_put_110 (fun H locs hP hD hS => ?_)
                  have hP : va_P G vwCl (moT ca h a (m_z M, m_past M, m_states M, m_slots M, m_isSaved M, upd (apL (m_pad M) n y k i) (n + i) (nI ((sh8 y (k - i - 1)) % 256)), nI ((n + i) + 1), m_spot M, m_told M, m_toldMany M)) H := hP
                  have hD : va_D A (moT ca h a (m_z M, m_past M, m_states M, m_slots M, m_isSaved M, upd (apL (m_pad M) n y k i) (n + i) (nI ((sh8 y (k - i - 1)) % 256)), nI ((n + i) + 1), m_spot M, m_told M, m_toldMany M)) := hD
                  refine lv_iinc (v := (nI (k - i) - 1) + (-1)) (lv' := [(6, .int ((nI (k - i) - 1) + (-1))), (0, .ref h), (1, .long (lN y)), (5, .int (nI k))]) hx hb dX5_put_113 hl (k := 3) rfl (rfl) (by decide) rfl (fun ls hl => ?_)
                  refine lv_goto (tgt := 77) hx hb dX5_put_116 (by decide) ?_
                  exact ih (i + 1) (by omega) _ _ _ (by rw [show (apL (m_pad M) n y k (i + 1)) = (upd (apL (m_pad M) n y k i) (n + i) (nI ((sh8 y (k - i - 1)) % 256))) from by first | rfl | exact (nI_1 _).symm, show (nI (n + (i + 1))) = (nI ((n + i) + 1)) from by first | rfl | exact (nI_1 _).symm]; exact hP) (D_of hD moF) hS (by rw [show (nI (k - (i + 1)) - 1) = ((nI (k - i) - 1) + (-1)) from by exact back_nI hlt]; exact lv_sub hl [1, 2, 3, 0] rfl)
            exact loop_77 k 0 (by omega) _ _ _ (by rw [show (apL (m_pad M) n y k 0) = (m_pad M) from by first | rfl | exact hty.symm, show (nI (n + 0)) = (m_typed M) from by first | rfl | exact hty.symm]; exact hP) (D_of hD moF) hS (lv_sub hl [1, 2, 3, 0] rfl)
          · skip
            exact absurd (nI_le (by omega) (by omega)) c_8
        · skip
          exact absurd c_7 (nI_ne0 hk0 (by omega))
      · skip
        have nc_6 : ¬ (sh8 y i) = 0 := fun q => c_6 ((lc_eq (a := (sh8 y i)) (b := 0) (by omega) (by omega)).mpr q)
        refine lv_iload hx hb dX5_put_11 (lv_at hl 3 rfl) ?_
        refine lv_bipush (v := nI 8) hx hb dX5_put_13 (by decide) ?_
        refine lv_icmp_ge (tgt := 48) hx hb dX5_put_15 (by decide) (fun c_11 => ?_) (fun c_11 => ?_)
        · skip
          exact absurd c_11 (nI_ge (by omega) (by omega))
        · skip
          refine lv_lload_n hx hb dX5_put_18 rfl (lv_at hl 2 rfl) ?_
          refine lv_ldc2 hx hb hown (hts (.constantLong RX5 128 (255)) (List.mem_of_getElem? (i := 1) rfl)) dX5_put_19 ?_
          refine lv_land hx hb dX5_put_22 ?_
          refine lv_eql (y := lN ((sh8 y i) % 256)) (and255L _ (by omega)) ?_
          refine lv_l2i (v := nI ((sh8 y i) % 256)) hx hb dX5_put_23 (lN_i _) ?_
          refine lv_bipush (v := 33) hx hb dX5_put_24 (by decide) ?_
          refine lv_bipush (v := 126) hx hb dX5_put_26 (by decide) ?_
          refine goI0 (va_runS (As := [.int (nI ((sh8 y i) % 256)), .int 33, .int 126]) (rest := []) ⟨hx, hb, hml, hown, hts⟩ (CtI.use (c_X5_in l G ca (nI ((sh8 y i) % 256)) 33 126) H.size) (va_cwS 3 hts gX5_put_X5_in rfl rfl rfl (by decide +kernel) ⟨Nat.le_of_ble_eq_true rfl, Nat.le_of_ble_eq_true rfl⟩) (pcW_S hev P_nil (D_nil (A := A))) rfl rfl hl.1 rfl (lv_room (Nat.le_of_ble_eq_true rfl)) dX5_put_28 ⟨Nat.zero_le _, Nat.zero_le _⟩) hP hS hA (fun H locs hP hS => ?_)
          refine lv_if_ne (tgt := 37) hx hb dX5_put_31 (by decide) (fun c_12 => ?_) (fun c_12 => ?_)
          · skip
            refine lv_lload_n hx hb dX5_put_37 rfl (lv_at hl 2 rfl) ?_
            refine lv_bipush (v := nI 8) hx hb dX5_put_38 (by decide) ?_
            refine lv_lushr (v := lN (sh8 y (i + 1))) hx hb dX5_put_40 ((wb_shr (by omega) (by omega)).trans (congrArg lN (sh8_s y i).symm)) ?_
            refine lv_lstore_n (lv' := [(3, .long (lN (sh8 y (i + 1)))), (0, .ref h), (1, .long (lN y)), (5, .int (nI i))]) hx hb dX5_put_41 rfl hl (by decide) rfl (fun ls hl => ?_)
            refine lv_iinc (v := nI (i + 1)) (lv' := [(5, .int (nI (i + 1))), (3, .long (lN (sh8 y (i + 1)))), (0, .ref h), (1, .long (lN y))]) hx hb dX5_put_42 hl (k := 3) rfl (nI_1 _) (by decide) rfl (fun ls hl => ?_)
            refine lv_goto (tgt := 5) hx hb dX5_put_45 (by decide) ?_
            exact ih (i + 1) (by omega) (by rw [← hr, mcG_s, if_neg (by assumption), if_neg (by assumption)]) _ _ _ hP (D_of hD moF) hS (lv_sub hl [2, 3, 1, 0] rfl)
          · skip
            have hk9 : 99 = k := by rw [← hr, mcG_s, if_neg (by assumption), if_pos (by assumption)]
            exact absurd hk9 (by omega)
  exact loop_5 8 0 (by omega) (by exact hk) _ _ _ hP (D_of hD moF) hS (by rw [show (lN (sh8 y 0)) = (lN y) from by rw [sh8_0]]; exact lv_sub hl [2, 3, 1, 0] rfl)
set_option maxHeartbeats 4000000 in
set_option maxRecDepth 100000 in
theorem c_X5_wipe (l : Launch) (G : va_G) (ca : Nat → ClassId) (h : Nat) (a : Nat → Nat) (M : MM) (n : Nat) (hty : m_typed M = nI n) (hn : n ≤ 60) : CtI l yX5_wipe wsX5_wipe ({ frames := 0, cells := 0, slots := 0, locals := 0 }) [.ref h] G ca (moT ca h a M) (moT ca h a (m_z M, m_past M, m_states M, m_slots M, m_isSaved M, m_pad M, nI 0, m_spot M, m_told M, m_toldMany M)) (nI n) := by
  refine CtI.ofW (cc := cX5_wipe) (maxL := 2) (rt := .int) (by decide) rfl (Nat.le_of_ble_eq_true rfl) rfl ?_
  intro pr en s m be me c A ls Q H hx hb hml hts hown hev hP hD hA hS hl hret
  have hown : s.vm.findClass RX5 = some m.cls := hown
  have hl : lv_has ls 2 [(0, .ref h)] := hl
  have in_wsX50 : ∀ w ∈ wsX50, w ∈ wsX5_wipe := fun _ h => List.mem_cons_of_mem _ (List.mem_append_right _ h)
  refine lv_aload_n hx hb dX5_wipe_0 rfl (lv_at hl 0 rfl) ?_
  refine va_get (D := G) (ci := 5) (v := .int (m_typed M)) (C := RX5) (T := TX5) (N := 10) hx hb hts in_wsX50 hown hev.1 hP 0 rfl rfl 6 (by decide) (hts (.fieldLink RX5 130 "PuddleMinistriesModel" "typed" "I") (List.mem_of_getElem? (i := 1) rfl)) (fun _ h9 => h9) rfl dX5_wipe_1 ?_
  refine lv_eqi hty ?_
  refine lv_istore_n (lv' := [(1, .int (nI n)), (0, .ref h)]) hx hb dX5_wipe_4 rfl hl (by decide) rfl (fun ls hl => ?_)
  refine lv_aload_n hx hb dX5_wipe_5 rfl (lv_at hl 1 rfl) ?_
  refine lv_iconst (v := nI 0) hx hb dX5_wipe_6 (by decide) ?_
  refine va_put (D := G) (ci := 5) (v := .int (nI 0)) (ty := .int) (C := RX5) (T := TX5) (N := 10) hx hb hts in_wsX50 tyX5 tyX5_ok nmX5 hown hev.1 hP hD hS 0 rfl rfl 6 (by decide) (hts (.fieldLink RX5 130 "PuddleMinistriesModel" "typed" "I") (List.mem_of_getElem? (i := 1) rfl)) (fun _ h9 => h9) rfl (by decide +kernel) rfl rfl (Nat.le_of_ble_eq_true rfl) dX5_wipe_7 (fun H locs hP hD hS => ?_)
  have hP : va_P G vwCl (moT ca h a (m_z M, m_past M, m_states M, m_slots M, m_isSaved M, m_pad M, nI 0, m_spot M, m_told M, m_toldMany M)) H := hP
  have hD : va_D A (moT ca h a (m_z M, m_past M, m_states M, m_slots M, m_isSaved M, m_pad M, nI 0, m_spot M, m_told M, m_toldMany M)) := hD
  refine lv_iload_n hx hb dX5_wipe_10 rfl (lv_at hl 0 rfl) ?_
  exact hret _ _ _ _ hP hS dX5_wipe_11
set_option maxHeartbeats 4000000 in
set_option maxRecDepth 100000 in
theorem c_X5_fault (l : Launch) (G : va_G) (ca : Nat → ClassId) (h : Nat) (a : Nat → Nat) (M : MM) (n : Nat) (hty : m_typed M = nI n) (hn : n ≤ 60) : CtI l yX5_fault wsX5_fault ({ frames := 3, cells := 0, slots := 0, locals := 64 }) [.ref h] G ca (moT ca h a M) (moT ca h a (m_z M, m_past M, m_states M, m_slots M, m_isSaved M, m_pad M, m_typed M, nI (rpG (m_pad M) n n 0).2.2, tdL (m_pad M) n (m_told M) (rpG (m_pad M) n n 0).2.1, nI (rpG (m_pad M) n n 0).2.1)) (if (rpG (m_pad M) n n 0).1 = 0 then nI (rpG (m_pad M) n n 0).2.2 else (-6)) := by
  refine CtI.ofW (cc := cX5_fault) (maxL := 1) (rt := .int) (by decide) rfl (Nat.le_of_ble_eq_true rfl) rfl ?_
  intro pr en s m be me c A ls Q H hx hb hml hts hown hev hP hD hA hS hl hret
  have hown : s.vm.findClass RX5 = some m.cls := hown
  have hl : lv_has ls 1 [(0, .ref h)] := hl
  have in_wsX50 : ∀ w ∈ wsX50, w ∈ wsX5_fault := fun _ h => List.mem_cons_of_mem _ (List.mem_append_right _ h)
  refine lv_aload_n hx hb dX5_fault_0 rfl (lv_at hl 0 rfl) ?_
  refine goIw (va_runV (As := []) (rest := []) ⟨hx, hb, hml, hown, hts⟩ (CtI.use (c_X5_readPad l G ca h a M n hty (by omega)) H.size) (cwV 0 hts gX5_fault_X5_readPad rfl rfl rfl (by decide +kernel) ⟨Nat.le_of_ble_eq_true rfl, Nat.le_of_ble_eq_true rfl⟩) (pcW_V hev hP hD (q0 := 0) rfl rfl rfl) rfl rfl hl.1 rfl (lv_room (Nat.le_of_ble_eq_true rfl)) dX5_fault_1 ⟨Nat.zero_le _, Nat.zero_le _⟩) hD hS hA moF (fun H locs hP hD hS => ?_)
  refine lv_if_eq (tgt := 12) hx hb dX5_fault_4 (by decide) (fun c_1 => ?_) (fun c_1 => ?_)
  · skip
    refine lv_aload_n hx hb dX5_fault_12 rfl (lv_at hl 0 rfl) ?_
    refine va_get (D := G) (ci := 5) (v := .int (nI (rpG (m_pad M) n n 0).2.2)) (C := RX5) (T := TX5) (N := 10) hx hb hts in_wsX50 hown hev.1 hP 0 rfl rfl 7 (by decide) (hts (.fieldLink RX5 133 "PuddleMinistriesModel" "spot" "I") (List.mem_of_getElem? (i := 1) rfl)) (fun _ h9 => h9) rfl dX5_fault_13 ?_
    refine lv_eqi (y := if (rpG (m_pad M) n n 0).1 = 0 then nI (rpG (m_pad M) n n 0).2.2 else (-6)) (by rw [if_pos c_1]) ?_
    exact hret _ _ _ _ hP hS dX5_fault_16
  · skip
    refine lv_bipush (v := (-6)) hx hb dX5_fault_7 (by decide) ?_
    refine lv_goto (tgt := 16) hx hb dX5_fault_9 (by decide) ?_
    refine lv_eqi (y := if (rpG (m_pad M) n n 0).1 = 0 then nI (rpG (m_pad M) n n 0).2.2 else (-6)) (by rw [if_neg c_1]) ?_
    exact hret _ _ _ _ hP hS dX5_fault_16
def mdL (td : Nat → Int32) : Nat → Int32 | 0 => 0 | i + 1 => if td i = 11 then mdL td i + 1 else mdL td i + 0
theorem mdL_s (td : Nat → Int32) (i : Nat) : mdL td (i + 1) = if td i = 11 then mdL td i + 1 else mdL td i + 0 := rfl
def rzL (z td : Nat → Int32) (n12 n72 : Nat) : Nat → (Nat → Int32) | 0 => z | i + 1 => zLp (td i) (rzL z td n12 n72 i) n12 n72
theorem rpG_le (g : Nat → Int32) (n q : Nat) : ∀ i, (rpG g n q i).2.1 ≤ i + q := by
  induction q with
  | zero => intro i; rw [rpG_0]; exact Nat.le_refl _
  | succ q ih =>
    intro i
    rw [rpG_s]
    split
    · show i ≤ _; omega
    · split
      · show i + 1 ≤ _; omega
      · have := ih (i + 1); omega
set_option maxHeartbeats 4000000 in
set_option maxRecDepth 100000 in
theorem c_X5_read_bad (l : Launch) (G : va_G) (ca : Nat → ClassId) (h : Nat) (a : Nat → Nat) (M : MM) (n : Nat) (hty : m_typed M = nI n) (hn : n ≤ 60) (hf : (rpG (m_pad M) n n 0).1 = 0) : CtI l yX5_read wsX5_read ({ frames := 3, cells := 0, slots := 0, locals := 64 }) [.ref h] G ca (moT ca h a M) (moT ca h a (m_z M, m_past M, m_states M, m_slots M, m_isSaved M, m_pad M, m_typed M, nI (rpG (m_pad M) n n 0).2.2, tdL (m_pad M) n (m_told M) (rpG (m_pad M) n n 0).2.1, nI (rpG (m_pad M) n n 0).2.1)) (-3) := by
  refine CtI.ofW (cc := cX5_read) (maxL := 3) (rt := .int) (by decide) rfl (Nat.le_of_ble_eq_true rfl) rfl ?_
  intro pr en s m be me c A ls Q H hx hb hml hts hown hev hP hD hA hS hl hret
  have hown : s.vm.findClass RX5 = some m.cls := hown
  have hl : lv_has ls 3 [(0, .ref h)] := hl
  have in_wsX50 : ∀ w ∈ wsX50, w ∈ wsX5_read := fun _ h => List.mem_cons_of_mem _ (List.mem_append_right _ h)
  have hK := rpG_le (m_pad M) n n 0
  refine lv_aload_n hx hb dX5_read_0 rfl (lv_at hl 0 rfl) ?_
  refine goIw (va_runV (As := []) (rest := []) ⟨hx, hb, hml, hown, hts⟩ (CtI.use (c_X5_readPad l G ca h a M n hty (by omega)) H.size) (cwV 0 hts gX5_read_X5_readPad rfl rfl rfl (by decide +kernel) ⟨Nat.le_of_ble_eq_true rfl, Nat.le_of_ble_eq_true rfl⟩) (pcW_V hev hP hD (q0 := 0) rfl rfl rfl) rfl rfl hl.1 rfl (lv_room (Nat.le_of_ble_eq_true rfl)) dX5_read_1 ⟨Nat.zero_le _, Nat.zero_le _⟩) hD hS hA moF (fun H locs hP hD hS => ?_)
  refine lv_if_ne (tgt := 10) hx hb dX5_read_4 (by decide) (fun c_1 => ?_) (fun c_1 => ?_)
  · skip
    exact absurd hf c_1
  · skip
    refine lv_bipush (v := (-3)) hx hb dX5_read_7 (by decide) ?_
    exact hret _ _ _ _ hP hS dX5_read_9
set_option maxHeartbeats 4000000 in
set_option maxRecDepth 100000 in
theorem c_X5_read_many (l : Launch) (G : va_G) (ca : Nat → ClassId) (h : Nat) (a : Nat → Nat) (M : MM) (n : Nat) (hty : m_typed M = nI n) (hn : n ≤ 60) (hf : ¬ (rpG (m_pad M) n n 0).1 = 0) (hd : ¬ m_z M 4 + mdL (tdL (m_pad M) n (m_told M) (rpG (m_pad M) n n 0).2.1) (rpG (m_pad M) n n 0).2.1 ≤ 9999) : CtI l yX5_read wsX5_read ({ frames := 3, cells := 0, slots := 0, locals := 64 }) [.ref h] G ca (moT ca h a M) (moT ca h a (m_z M, m_past M, m_states M, m_slots M, m_isSaved M, m_pad M, m_typed M, nI (rpG (m_pad M) n n 0).2.2, tdL (m_pad M) n (m_told M) (rpG (m_pad M) n n 0).2.1, nI (rpG (m_pad M) n n 0).2.1)) (-4) := by
  refine CtI.ofW (cc := cX5_read) (maxL := 3) (rt := .int) (by decide) rfl (Nat.le_of_ble_eq_true rfl) rfl ?_
  intro pr en s m be me c A ls Q H hx hb hml hts hown hev hP hD hA hS hl hret
  have hown : s.vm.findClass RX5 = some m.cls := hown
  have hl : lv_has ls 3 [(0, .ref h)] := hl
  have in_wsX50 : ∀ w ∈ wsX50, w ∈ wsX5_read := fun _ h => List.mem_cons_of_mem _ (List.mem_append_right _ h)
  have hK := rpG_le (m_pad M) n n 0
  refine lv_aload_n hx hb dX5_read_0 rfl (lv_at hl 0 rfl) ?_
  refine goIw (va_runV (As := []) (rest := []) ⟨hx, hb, hml, hown, hts⟩ (CtI.use (c_X5_readPad l G ca h a M n hty (by omega)) H.size) (cwV 0 hts gX5_read_X5_readPad rfl rfl rfl (by decide +kernel) ⟨Nat.le_of_ble_eq_true rfl, Nat.le_of_ble_eq_true rfl⟩) (pcW_V hev hP hD (q0 := 0) rfl rfl rfl) rfl rfl hl.1 rfl (lv_room (Nat.le_of_ble_eq_true rfl)) dX5_read_1 ⟨Nat.zero_le _, Nat.zero_le _⟩) hD hS hA moF (fun H locs hP hD hS => ?_)
  refine lv_if_ne (tgt := 10) hx hb dX5_read_4 (by decide) (fun c_1 => ?_) (fun c_1 => ?_)
  · skip
    refine lv_iconst (v := 0) hx hb dX5_read_10 (by decide) ?_
    refine lv_istore_n (lv' := [(1, .int 0), (0, .ref h)]) hx hb dX5_read_11 rfl hl (by decide) rfl (fun ls hl => ?_)
    refine lv_iconst (v := nI 0) hx hb dX5_read_12 (by decide) ?_
    refine lv_istore_n (lv' := [(2, .int (nI 0)), (1, .int 0), (0, .ref h)]) hx hb dX5_read_13 rfl hl (by decide) rfl (fun ls hl => ?_)
    have loop_14 : ∀ (fu i : Nat), i + fu = (rpG (m_pad M) n n 0).2.1 → ∀ (H : Heap) (locs : List Loc) (ls : Array Slot), va_P G vwCl (moT ca h a (m_z M, m_past M, m_states M, m_slots M, m_isSaved M, m_pad M, m_typed M, nI (rpG ((m_pad M)) n n 0).2.2, tdL ((m_pad M)) n ((m_told M)) (rpG ((m_pad M)) n n 0).2.1, nI (rpG ((m_pad M)) n n 0).2.1)) H → va_D A (moT ca h a (m_z M, m_past M, m_states M, m_slots M, m_isSaved M, m_pad M, m_typed M, nI (rpG ((m_pad M)) n n 0).2.2, tdL ((m_pad M)) n ((m_told M)) (rpG ((m_pad M)) n n 0).2.1, nI (rpG ((m_pad M)) n n 0).2.1)) → va_S A s.heap H locs → lv_has ls 3 [(0, .ref h), (1, .int (mdL (tdL (m_pad M) n (m_told M) (rpG (m_pad M) n n 0).2.1) i)), (2, .int (nI i))] → W pr l en ({ frames := 3, cells := 0, slots := 0, locals := 64 } : Room) s m ([.ref h] : List Value).toArray be me c H locs 0 0 Q (F0 m 14 ls []) := by
      intro fu
      induction fu with
      | zero =>
        intro i hi H locs ls hP hD hS hl
        obtain rfl : i = (rpG (m_pad M) n n 0).2.1 := by omega
        refine lv_iload_n hx hb dX5_read_14 rfl (lv_at hl 2 rfl) ?_
        refine lv_aload_n hx hb dX5_read_15 rfl (lv_at hl 0 rfl) ?_
        refine va_get (D := G) (ci := 5) (v := .int (nI (rpG (m_pad M) n n 0).2.1)) (C := RX5) (T := TX5) (N := 10) hx hb hts in_wsX50 hown hev.1 hP 0 rfl rfl 9 (by decide) (hts (.fieldLink RX5 136 "PuddleMinistriesModel" "toldMany" "I") (List.mem_of_getElem? (i := 1) rfl)) (fun _ h9 => h9) rfl dX5_read_16 ?_
        refine lv_icmp_ge (tgt := 47) hx hb dX5_read_19 (by decide) (fun c_2 => ?_) (fun c_2 => ?_)
        · skip
          refine lv_aload_n hx hb dX5_read_47 rfl (lv_at hl 0 rfl) ?_
          refine va_get (D := G) (ci := 5) (v := .ref (a 0)) (C := RX5) (T := TX5) (N := 10) hx hb hts in_wsX50 hown hev.1 hP 0 rfl rfl 0 (by decide) (hts (.fieldLink RX5 7 "PuddleMinistriesModel" "z" "[I") (List.mem_of_getElem? (i := 3) rfl)) (fun _ h9 => h9) rfl dX5_read_48 ?_
          refine lv_iconst (v := nI 4) hx hb dX5_read_51 (by decide) ?_
          refine b_iald hx hb hev.1 hP 1 rfl rfl (j := 4) (by omega) (by decide) dX5_read_52 ?_
          refine lv_iload_n hx hb dX5_read_53 rfl (lv_at hl 1 rfl) ?_
          refine lv_iadd hx hb dX5_read_54 ?_
          refine lv_sipush (v := 9999) hx hb dX5_read_55 (by decide) ?_
          refine lv_icmp_le (tgt := 64) hx hb dX5_read_58 (by decide) (fun c_3 => ?_) (fun c_3 => ?_)
          · skip
            exact absurd c_3 hd
          · skip
            refine lv_bipush (v := (-4)) hx hb dX5_read_61 (by decide) ?_
            exact hret _ _ _ _ hP hS dX5_read_63
        · skip
          exact absurd (nI_le (by omega) (by omega)) c_2
      | succ fu ih =>
        intro i hi H locs ls hP hD hS hl
        have hlt : i < (rpG (m_pad M) n n 0).2.1 := by omega
        refine lv_iload_n hx hb dX5_read_14 rfl (lv_at hl 2 rfl) ?_
        refine lv_aload_n hx hb dX5_read_15 rfl (lv_at hl 0 rfl) ?_
        refine va_get (D := G) (ci := 5) (v := .int (nI (rpG (m_pad M) n n 0).2.1)) (C := RX5) (T := TX5) (N := 10) hx hb hts in_wsX50 hown hev.1 hP 0 rfl rfl 9 (by decide) (hts (.fieldLink RX5 136 "PuddleMinistriesModel" "toldMany" "I") (List.mem_of_getElem? (i := 1) rfl)) (fun _ h9 => h9) rfl dX5_read_16 ?_
        refine lv_icmp_ge (tgt := 47) hx hb dX5_read_19 (by decide) (fun c_4 => ?_) (fun c_4 => ?_)
        · skip
          exact absurd c_4 (nI_ge (by omega) (by omega))
        · skip
          refine lv_iload_n hx hb dX5_read_22 rfl (lv_at hl 1 rfl) ?_
          refine lv_aload_n hx hb dX5_read_23 rfl (lv_at hl 0 rfl) ?_
          refine va_get (D := G) (ci := 5) (v := .ref (a 5)) (C := RX5) (T := TX5) (N := 10) hx hb hts in_wsX50 hown hev.1 hP 0 rfl rfl 8 (by decide) (hts (.fieldLink RX5 26 "PuddleMinistriesModel" "told" "[I") (List.mem_of_getElem? (i := 2) rfl)) (fun _ h9 => h9) rfl dX5_read_24 ?_
          refine lv_iload_n hx hb dX5_read_27 rfl (lv_at hl 2 rfl) ?_
          refine b_iald hx hb hev.1 hP 6 rfl rfl (j := i) (by omega) (by decide) dX5_read_28 ?_
          refine lv_bipush (v := 11) hx hb dX5_read_29 (by decide) ?_
          refine lv_icmp_ne (tgt := 38) hx hb dX5_read_31 (by decide) (fun c_5 => ?_) (fun c_5 => ?_)
          · skip
            refine lv_iconst (v := 0) hx hb dX5_read_38 (by decide) ?_
            refine lv_iadd hx hb dX5_read_39 ?_
            refine lv_istore_n (lv' := [(1, .int ((mdL (tdL (m_pad M) n (m_told M) (rpG (m_pad M) n n 0).2.1) i) + 0)), (0, .ref h), (2, .int (nI i))]) hx hb dX5_read_40 rfl hl (by decide) rfl (fun ls hl => ?_)
            refine lv_iinc (v := nI (i + 1)) (lv' := [(2, .int (nI (i + 1))), (1, .int ((mdL (tdL (m_pad M) n (m_told M) (rpG (m_pad M) n n 0).2.1) i) + 0)), (0, .ref h)]) hx hb dX5_read_41 hl (k := 2) rfl (nI_1 _) (by decide) rfl (fun ls hl => ?_)
            refine lv_goto (tgt := 14) hx hb dX5_read_44 (by decide) ?_
            exact ih (i + 1) (by omega) _ _ _ hP (D_of hD moF) hS (by rw [show (mdL (tdL (m_pad M) n (m_told M) (rpG (m_pad M) n n 0).2.1) (i + 1)) = ((mdL (tdL (m_pad M) n (m_told M) (rpG (m_pad M) n n 0).2.1) i) + 0) from by rw [mdL_s, if_neg c_5]]; exact lv_sub hl [2, 1, 0] rfl)
          · skip
            refine lv_iconst (v := 1) hx hb dX5_read_34 (by decide) ?_
            refine lv_goto (tgt := 39) hx hb dX5_read_35 (by decide) ?_
            refine lv_iadd hx hb dX5_read_39 ?_
            refine lv_istore_n (lv' := [(1, .int ((mdL (tdL (m_pad M) n (m_told M) (rpG (m_pad M) n n 0).2.1) i) + 1)), (0, .ref h), (2, .int (nI i))]) hx hb dX5_read_40 rfl hl (by decide) rfl (fun ls hl => ?_)
            refine lv_iinc (v := nI (i + 1)) (lv' := [(2, .int (nI (i + 1))), (1, .int ((mdL (tdL (m_pad M) n (m_told M) (rpG (m_pad M) n n 0).2.1) i) + 1)), (0, .ref h)]) hx hb dX5_read_41 hl (k := 2) rfl (nI_1 _) (by decide) rfl (fun ls hl => ?_)
            refine lv_goto (tgt := 14) hx hb dX5_read_44 (by decide) ?_
            exact ih (i + 1) (by omega) _ _ _ hP (D_of hD moF) hS (by rw [show (mdL (tdL (m_pad M) n (m_told M) (rpG (m_pad M) n n 0).2.1) (i + 1)) = ((mdL (tdL (m_pad M) n (m_told M) (rpG (m_pad M) n n 0).2.1) i) + 1) from by rw [mdL_s, if_pos c_5]]; exact lv_sub hl [2, 1, 0] rfl)
    exact loop_14 ((rpG (m_pad M) n n 0).2.1) 0 (by omega) _ _ _ hP (D_of hD moF) hS (lv_sub hl [2, 1, 0] rfl)
  · skip
    exact absurd c_1 hf
set_option maxHeartbeats 4000000 in
set_option maxRecDepth 100000 in
theorem c_X5_read_ok (l : Launch) (G : va_G) (ca : Nat → ClassId) (h : Nat) (a : Nat → Nat) (M : MM) (n : Nat) (k6 : Nat) (n820 : Nat) (n12 : Nat) (n72 : Nat) (hst : m_states M = nI k6) (hk6 : k6 ≤ 6) (h820 : n820 = 820) (hty : m_typed M = nI n) (hn : n ≤ 60) (hf : ¬ (rpG (m_pad M) n n 0).1 = 0) (hd : m_z M 4 + mdL (tdL (m_pad M) n (m_told M) (rpG (m_pad M) n n 0).2.1) (rpG (m_pad M) n n 0).2.1 ≤ 9999) (h12 : n12 = 12) (h72 : n72 = 72) : CtI l yX5_read wsX5_read ({ frames := 4, cells := 0, slots := 0, locals := 89 }) [.ref h] G ca (moT ca h a M) (moT ca h a (rzL (m_z M) (tdL (m_pad M) n (m_told M) (rpG (m_pad M) n n 0).2.1) n12 n72 (rpG (m_pad M) n n 0).2.1, recP (m_past M) (m_z M) k6 n820, nI (recN k6), m_slots M, m_isSaved M, m_pad M, nI 0, nI (rpG (m_pad M) n n 0).2.2, tdL (m_pad M) n (m_told M) (rpG (m_pad M) n n 0).2.1, nI (rpG (m_pad M) n n 0).2.1)) (smD (fun p => rzL (m_z M) (tdL (m_pad M) n (m_told M) (rpG (m_pad M) n n 0).2.1) n12 n72 (rpG (m_pad M) n n 0).2.1 (8 + 5 * p + 1)) 12) := by
  refine CtI.ofW (cc := cX5_read) (maxL := 3) (rt := .int) (by decide) rfl (Nat.le_of_ble_eq_true rfl) rfl ?_
  intro pr en s m be me c A ls Q H hx hb hml hts hown hev hP hD hA hS hl hret
  have hown : s.vm.findClass RX5 = some m.cls := hown
  have hl : lv_has ls 3 [(0, .ref h)] := hl
  have in_wsX50 : ∀ w ∈ wsX50, w ∈ wsX5_read := fun _ h => List.mem_cons_of_mem _ (List.mem_append_right _ h)
  have hK := rpG_le (m_pad M) n n 0
  refine lv_aload_n hx hb dX5_read_0 rfl (lv_at hl 0 rfl) ?_
  refine goIw (va_runV (As := []) (rest := []) ⟨hx, hb, hml, hown, hts⟩ (CtI.use (c_X5_readPad l G ca h a M n hty (by omega)) H.size) (cwV 0 hts gX5_read_X5_readPad rfl rfl rfl (by decide +kernel) ⟨Nat.le_of_ble_eq_true rfl, Nat.le_of_ble_eq_true rfl⟩) (pcW_V hev hP hD (q0 := 0) rfl rfl rfl) rfl rfl hl.1 rfl (lv_room (Nat.le_of_ble_eq_true rfl)) dX5_read_1 ⟨Nat.zero_le _, Nat.zero_le _⟩) hD hS hA moF (fun H locs hP hD hS => ?_)
  refine lv_if_ne (tgt := 10) hx hb dX5_read_4 (by decide) (fun c_1 => ?_) (fun c_1 => ?_)
  · skip
    refine lv_iconst (v := 0) hx hb dX5_read_10 (by decide) ?_
    refine lv_istore_n (lv' := [(1, .int 0), (0, .ref h)]) hx hb dX5_read_11 rfl hl (by decide) rfl (fun ls hl => ?_)
    refine lv_iconst (v := nI 0) hx hb dX5_read_12 (by decide) ?_
    refine lv_istore_n (lv' := [(2, .int (nI 0)), (1, .int 0), (0, .ref h)]) hx hb dX5_read_13 rfl hl (by decide) rfl (fun ls hl => ?_)
    have loop_14 : ∀ (fu i : Nat), i + fu = (rpG (m_pad M) n n 0).2.1 → ∀ (H : Heap) (locs : List Loc) (ls : Array Slot), va_P G vwCl (moT ca h a (m_z M, m_past M, m_states M, m_slots M, m_isSaved M, m_pad M, m_typed M, nI (rpG ((m_pad M)) n n 0).2.2, tdL ((m_pad M)) n ((m_told M)) (rpG ((m_pad M)) n n 0).2.1, nI (rpG ((m_pad M)) n n 0).2.1)) H → va_D A (moT ca h a (m_z M, m_past M, m_states M, m_slots M, m_isSaved M, m_pad M, m_typed M, nI (rpG ((m_pad M)) n n 0).2.2, tdL ((m_pad M)) n ((m_told M)) (rpG ((m_pad M)) n n 0).2.1, nI (rpG ((m_pad M)) n n 0).2.1)) → va_S A s.heap H locs → lv_has ls 3 [(0, .ref h), (1, .int (mdL (tdL (m_pad M) n (m_told M) (rpG (m_pad M) n n 0).2.1) i)), (2, .int (nI i))] → W pr l en ({ frames := 4, cells := 0, slots := 0, locals := 89 } : Room) s m ([.ref h] : List Value).toArray be me c H locs 0 0 Q (F0 m 14 ls []) := by
      intro fu
      induction fu with
      | zero =>
        intro i hi H locs ls hP hD hS hl
        obtain rfl : i = (rpG (m_pad M) n n 0).2.1 := by omega
        refine lv_iload_n hx hb dX5_read_14 rfl (lv_at hl 2 rfl) ?_
        refine lv_aload_n hx hb dX5_read_15 rfl (lv_at hl 0 rfl) ?_
        refine va_get (D := G) (ci := 5) (v := .int (nI (rpG (m_pad M) n n 0).2.1)) (C := RX5) (T := TX5) (N := 10) hx hb hts in_wsX50 hown hev.1 hP 0 rfl rfl 9 (by decide) (hts (.fieldLink RX5 136 "PuddleMinistriesModel" "toldMany" "I") (List.mem_of_getElem? (i := 1) rfl)) (fun _ h9 => h9) rfl dX5_read_16 ?_
        refine lv_icmp_ge (tgt := 47) hx hb dX5_read_19 (by decide) (fun c_2 => ?_) (fun c_2 => ?_)
        · skip
          refine lv_aload_n hx hb dX5_read_47 rfl (lv_at hl 0 rfl) ?_
          refine va_get (D := G) (ci := 5) (v := .ref (a 0)) (C := RX5) (T := TX5) (N := 10) hx hb hts in_wsX50 hown hev.1 hP 0 rfl rfl 0 (by decide) (hts (.fieldLink RX5 7 "PuddleMinistriesModel" "z" "[I") (List.mem_of_getElem? (i := 3) rfl)) (fun _ h9 => h9) rfl dX5_read_48 ?_
          refine lv_iconst (v := nI 4) hx hb dX5_read_51 (by decide) ?_
          refine b_iald hx hb hev.1 hP 1 rfl rfl (j := 4) (by omega) (by decide) dX5_read_52 ?_
          refine lv_iload_n hx hb dX5_read_53 rfl (lv_at hl 1 rfl) ?_
          refine lv_iadd hx hb dX5_read_54 ?_
          refine lv_sipush (v := 9999) hx hb dX5_read_55 (by decide) ?_
          refine lv_icmp_le (tgt := 64) hx hb dX5_read_58 (by decide) (fun c_3 => ?_) (fun c_3 => ?_)
          · skip
            refine lv_aload_n hx hb dX5_read_64 rfl (lv_at hl 0 rfl) ?_
            refine goVw (va_runV (As := []) (rest := []) ⟨hx, hb, hml, hown, hts⟩ (CtV.use (c_X5_record l G ca h a (m_z M, m_past M, m_states M, m_slots M, m_isSaved M, m_pad M, m_typed M, nI (rpG ((m_pad M)) n n 0).2.2, tdL ((m_pad M)) n ((m_told M)) (rpG ((m_pad M)) n n 0).2.1, nI (rpG ((m_pad M)) n n 0).2.1) k6 n820 hst hk6 h820) H.size) (cwV 0 hts gX5_read_X5_record rfl rfl rfl (by decide +kernel) ⟨Nat.le_of_ble_eq_true rfl, Nat.le_of_ble_eq_true rfl⟩) (pcW_V hev hP hD (q0 := 0) rfl rfl rfl) rfl rfl hl.1 rfl (lv_room (Nat.le_of_ble_eq_true rfl)) dX5_read_65 ⟨Nat.zero_le _, Nat.zero_le _⟩) hD hS hA moF (fun H locs hP hD hS => ?_)
            refine lv_iconst (v := nI 0) hx hb dX5_read_68 (by decide) ?_
            refine lv_istore_n (lv' := [(2, .int (nI 0)), (0, .ref h), (1, .int (mdL (tdL (m_pad M) n (m_told M) (rpG (m_pad M) n n 0).2.1) ((rpG (m_pad M) n n 0).2.1)))]) hx hb dX5_read_69 rfl hl (by decide) rfl (fun ls hl => ?_)
            have loop_70 : ∀ (fu i : Nat), i + fu = (rpG (m_pad M) n n 0).2.1 → ∀ (H : Heap) (locs : List Loc) (ls : Array Slot), va_P G vwCl (moT ca h a (rzL (m_z M) (tdL (m_pad M) n (m_told M) (rpG (m_pad M) n n 0).2.1) n12 n72 i, recP ((m_past M)) ((m_z M)) k6 n820, nI (recN k6), m_slots M, m_isSaved M, m_pad M, m_typed M, nI (rpG ((m_pad M)) n n 0).2.2, tdL ((m_pad M)) n ((m_told M)) (rpG ((m_pad M)) n n 0).2.1, nI (rpG ((m_pad M)) n n 0).2.1)) H → va_D A (moT ca h a (rzL (m_z M) (tdL (m_pad M) n (m_told M) (rpG (m_pad M) n n 0).2.1) n12 n72 i, recP ((m_past M)) ((m_z M)) k6 n820, nI (recN k6), m_slots M, m_isSaved M, m_pad M, m_typed M, nI (rpG ((m_pad M)) n n 0).2.2, tdL ((m_pad M)) n ((m_told M)) (rpG ((m_pad M)) n n 0).2.1, nI (rpG ((m_pad M)) n n 0).2.1)) → va_S A s.heap H locs → lv_has ls 3 [(0, .ref h), (2, .int (nI i))] → W pr l en ({ frames := 4, cells := 0, slots := 0, locals := 89 } : Room) s m ([.ref h] : List Value).toArray be me c H locs 0 0 Q (F0 m 70 ls []) := by
              intro fu
              induction fu with
              | zero =>
                intro i hi H locs ls hP hD hS hl
                obtain rfl : i = (rpG (m_pad M) n n 0).2.1 := by omega
                refine lv_iload_n hx hb dX5_read_70 rfl (lv_at hl 1 rfl) ?_
                refine lv_aload_n hx hb dX5_read_71 rfl (lv_at hl 0 rfl) ?_
                refine va_get (D := G) (ci := 5) (v := .int (nI (rpG (m_pad M) n n 0).2.1)) (C := RX5) (T := TX5) (N := 10) hx hb hts in_wsX50 hown hev.1 hP 0 rfl rfl 9 (by decide) (hts (.fieldLink RX5 136 "PuddleMinistriesModel" "toldMany" "I") (List.mem_of_getElem? (i := 1) rfl)) (fun _ h9 => h9) rfl dX5_read_72 ?_
                refine lv_icmp_ge (tgt := 94) hx hb dX5_read_75 (by decide) (fun c_4 => ?_) (fun c_4 => ?_)
                · skip
                  refine lv_aload_n hx hb dX5_read_94 rfl (lv_at hl 0 rfl) ?_
                  refine lv_iconst (v := nI 0) hx hb dX5_read_95 (by decide) ?_
                  refine va_put (D := G) (ci := 5) (v := .int (nI 0)) (ty := .int) (C := RX5) (T := TX5) (N := 10) hx hb hts in_wsX50 tyX5 tyX5_ok nmX5 hown hev.1 hP hD hS 0 rfl rfl 6 (by decide) (hts (.fieldLink RX5 130 "PuddleMinistriesModel" "typed" "I") (List.mem_of_getElem? (i := 4) rfl)) (fun _ h9 => h9) rfl (by decide +kernel) rfl rfl (Nat.le_of_ble_eq_true rfl) dX5_read_96 (fun H locs hP hD hS => ?_)
                  have hP : va_P G vwCl (moT ca h a (rzL (m_z M) (tdL (m_pad M) n (m_told M) (rpG (m_pad M) n n 0).2.1) n12 n72 ((rpG (m_pad M) n n 0).2.1), recP ((m_past M)) ((m_z M)) k6 n820, nI (recN k6), m_slots M, m_isSaved M, m_pad M, nI 0, nI (rpG ((m_pad M)) n n 0).2.2, tdL ((m_pad M)) n ((m_told M)) (rpG ((m_pad M)) n n 0).2.1, nI (rpG ((m_pad M)) n n 0).2.1)) H := hP
                  have hD : va_D A (moT ca h a (rzL (m_z M) (tdL (m_pad M) n (m_told M) (rpG (m_pad M) n n 0).2.1) n12 n72 ((rpG (m_pad M) n n 0).2.1), recP ((m_past M)) ((m_z M)) k6 n820, nI (recN k6), m_slots M, m_isSaved M, m_pad M, nI 0, nI (rpG ((m_pad M)) n n 0).2.2, tdL ((m_pad M)) n ((m_told M)) (rpG ((m_pad M)) n n 0).2.1, nI (rpG ((m_pad M)) n n 0).2.1)) := hD
                  refine lv_aload_n hx hb dX5_read_99 rfl (lv_at hl 0 rfl) ?_
                  refine goIw (va_runV (As := []) (rest := []) ⟨hx, hb, hml, hown, hts⟩ (CtI.use (c_X5_water l G ca h a (rzL (m_z M) (tdL (m_pad M) n (m_told M) (rpG (m_pad M) n n 0).2.1) n12 n72 ((rpG (m_pad M) n n 0).2.1), recP ((m_past M)) ((m_z M)) k6 n820, nI (recN k6), m_slots M, m_isSaved M, m_pad M, nI 0, nI (rpG ((m_pad M)) n n 0).2.2, tdL ((m_pad M)) n ((m_told M)) (rpG ((m_pad M)) n n 0).2.1, nI (rpG ((m_pad M)) n n 0).2.1)) H.size) (cwV 0 hts gX5_read_X5_water rfl rfl rfl (by decide +kernel) ⟨Nat.le_of_ble_eq_true rfl, Nat.le_of_ble_eq_true rfl⟩) (pcW_V hev hP hD (q0 := 0) rfl rfl rfl) rfl rfl hl.1 rfl (lv_room (Nat.le_of_ble_eq_true rfl)) dX5_read_100 ⟨Nat.zero_le _, Nat.zero_le _⟩) hD hS hA moF (fun H locs hP hD hS => ?_)
                  refine lv_eqi (y := smD (fun p => (rzL (m_z M) (tdL (m_pad M) n (m_told M) (rpG (m_pad M) n n 0).2.1) n12 n72 ((rpG (m_pad M) n n 0).2.1)) (8 + 5 * p + 1)) 12) rfl ?_
                  refine lv_eqi (y := smD (fun p => rzL (m_z M) (tdL (m_pad M) n (m_told M) (rpG (m_pad M) n n 0).2.1) n12 n72 (rpG (m_pad M) n n 0).2.1 (8 + 5 * p + 1)) 12) rfl ?_
                  exact hret _ _ _ _ hP hS dX5_read_103
                · skip
                  exact absurd (nI_le (by omega) (by omega)) c_4
              | succ fu ih =>
                intro i hi H locs ls hP hD hS hl
                have hlt : i < (rpG (m_pad M) n n 0).2.1 := by omega
                refine lv_iload_n hx hb dX5_read_70 rfl (lv_at hl 1 rfl) ?_
                refine lv_aload_n hx hb dX5_read_71 rfl (lv_at hl 0 rfl) ?_
                refine va_get (D := G) (ci := 5) (v := .int (nI (rpG (m_pad M) n n 0).2.1)) (C := RX5) (T := TX5) (N := 10) hx hb hts in_wsX50 hown hev.1 hP 0 rfl rfl 9 (by decide) (hts (.fieldLink RX5 136 "PuddleMinistriesModel" "toldMany" "I") (List.mem_of_getElem? (i := 1) rfl)) (fun _ h9 => h9) rfl dX5_read_72 ?_
                refine lv_icmp_ge (tgt := 94) hx hb dX5_read_75 (by decide) (fun c_5 => ?_) (fun c_5 => ?_)
                · skip
                  exact absurd c_5 (nI_ge (by omega) (by omega))
                · skip
                  refine lv_aload_n hx hb dX5_read_78 rfl (lv_at hl 0 rfl) ?_
                  refine lv_aload_n hx hb dX5_read_79 rfl (lv_at hl 0 rfl) ?_
                  refine va_get (D := G) (ci := 5) (v := .ref (a 5)) (C := RX5) (T := TX5) (N := 10) hx hb hts in_wsX50 hown hev.1 hP 0 rfl rfl 8 (by decide) (hts (.fieldLink RX5 26 "PuddleMinistriesModel" "told" "[I") (List.mem_of_getElem? (i := 2) rfl)) (fun _ h9 => h9) rfl dX5_read_80 ?_
                  refine lv_iload_n hx hb dX5_read_83 rfl (lv_at hl 1 rfl) ?_
                  refine b_iald hx hb hev.1 hP 6 rfl rfl (j := i) (by omega) (by decide) dX5_read_84 ?_
                  refine goVw (va_runV (As := [.int ((tdL (m_pad M) n (m_told M) (rpG (m_pad M) n n 0).2.1) i)]) (rest := []) ⟨hx, hb, hml, hown, hts⟩ (CtV.use (c_X5_passNow l G ca h a (rzL (m_z M) (tdL (m_pad M) n (m_told M) (rpG (m_pad M) n n 0).2.1) n12 n72 i, recP ((m_past M)) ((m_z M)) k6 n820, nI (recN k6), m_slots M, m_isSaved M, m_pad M, m_typed M, nI (rpG ((m_pad M)) n n 0).2.2, tdL ((m_pad M)) n ((m_told M)) (rpG ((m_pad M)) n n 0).2.1, nI (rpG ((m_pad M)) n n 0).2.1) ((tdL (m_pad M) n (m_told M) (rpG (m_pad M) n n 0).2.1) i) n12 n72 h12 h72) H.size) (cwV 1 hts gX5_read_X5_passNow rfl rfl rfl (by decide +kernel) ⟨Nat.le_of_ble_eq_true rfl, Nat.le_of_ble_eq_true rfl⟩) (pcW_V hev hP hD (q0 := 0) rfl rfl rfl) rfl rfl hl.1 rfl (lv_room (Nat.le_of_ble_eq_true rfl)) dX5_read_85 ⟨Nat.zero_le _, Nat.zero_le _⟩) hD hS hA moF (fun H locs hP hD hS => ?_)
                  refine lv_iinc (v := nI (i + 1)) (lv' := [(2, .int (nI (i + 1))), (0, .ref h)]) hx hb dX5_read_88 hl (k := 1) rfl (nI_1 _) (by decide) rfl (fun ls hl => ?_)
                  refine lv_goto (tgt := 70) hx hb dX5_read_91 (by decide) ?_
                  exact ih (i + 1) (by omega) _ _ _ (by rw [show (rzL (m_z M) (tdL (m_pad M) n (m_told M) (rpG (m_pad M) n n 0).2.1) n12 n72 (i + 1)) = (zLp ((tdL (m_pad M) n (m_told M) (rpG (m_pad M) n n 0).2.1) i) ((rzL (m_z M) (tdL (m_pad M) n (m_told M) (rpG (m_pad M) n n 0).2.1) n12 n72 i)) n12 n72) from by rfl]; exact hP) (D_of hD moF) hS (lv_sub hl [1, 0] rfl)
            exact loop_70 ((rpG (m_pad M) n n 0).2.1) 0 (by omega) _ _ _ (by rw [show (rzL (m_z M) (tdL (m_pad M) n (m_told M) (rpG (m_pad M) n n 0).2.1) n12 n72 0) = (m_z M) from by rfl]; exact hP) (D_of hD moF) hS (lv_sub hl [1, 0] rfl)
          · skip
            exact absurd hd c_3
        · skip
          exact absurd (nI_le (by omega) (by omega)) c_2
      | succ fu ih =>
        intro i hi H locs ls hP hD hS hl
        have hlt : i < (rpG (m_pad M) n n 0).2.1 := by omega
        refine lv_iload_n hx hb dX5_read_14 rfl (lv_at hl 2 rfl) ?_
        refine lv_aload_n hx hb dX5_read_15 rfl (lv_at hl 0 rfl) ?_
        refine va_get (D := G) (ci := 5) (v := .int (nI (rpG (m_pad M) n n 0).2.1)) (C := RX5) (T := TX5) (N := 10) hx hb hts in_wsX50 hown hev.1 hP 0 rfl rfl 9 (by decide) (hts (.fieldLink RX5 136 "PuddleMinistriesModel" "toldMany" "I") (List.mem_of_getElem? (i := 1) rfl)) (fun _ h9 => h9) rfl dX5_read_16 ?_
        refine lv_icmp_ge (tgt := 47) hx hb dX5_read_19 (by decide) (fun c_6 => ?_) (fun c_6 => ?_)
        · skip
          exact absurd c_6 (nI_ge (by omega) (by omega))
        · skip
          refine lv_iload_n hx hb dX5_read_22 rfl (lv_at hl 1 rfl) ?_
          refine lv_aload_n hx hb dX5_read_23 rfl (lv_at hl 0 rfl) ?_
          refine va_get (D := G) (ci := 5) (v := .ref (a 5)) (C := RX5) (T := TX5) (N := 10) hx hb hts in_wsX50 hown hev.1 hP 0 rfl rfl 8 (by decide) (hts (.fieldLink RX5 26 "PuddleMinistriesModel" "told" "[I") (List.mem_of_getElem? (i := 2) rfl)) (fun _ h9 => h9) rfl dX5_read_24 ?_
          refine lv_iload_n hx hb dX5_read_27 rfl (lv_at hl 2 rfl) ?_
          refine b_iald hx hb hev.1 hP 6 rfl rfl (j := i) (by omega) (by decide) dX5_read_28 ?_
          refine lv_bipush (v := 11) hx hb dX5_read_29 (by decide) ?_
          refine lv_icmp_ne (tgt := 38) hx hb dX5_read_31 (by decide) (fun c_7 => ?_) (fun c_7 => ?_)
          · skip
            refine lv_iconst (v := 0) hx hb dX5_read_38 (by decide) ?_
            refine lv_iadd hx hb dX5_read_39 ?_
            refine lv_istore_n (lv' := [(1, .int ((mdL (tdL (m_pad M) n (m_told M) (rpG (m_pad M) n n 0).2.1) i) + 0)), (0, .ref h), (2, .int (nI i))]) hx hb dX5_read_40 rfl hl (by decide) rfl (fun ls hl => ?_)
            refine lv_iinc (v := nI (i + 1)) (lv' := [(2, .int (nI (i + 1))), (1, .int ((mdL (tdL (m_pad M) n (m_told M) (rpG (m_pad M) n n 0).2.1) i) + 0)), (0, .ref h)]) hx hb dX5_read_41 hl (k := 2) rfl (nI_1 _) (by decide) rfl (fun ls hl => ?_)
            refine lv_goto (tgt := 14) hx hb dX5_read_44 (by decide) ?_
            exact ih (i + 1) (by omega) _ _ _ hP (D_of hD moF) hS (by rw [show (mdL (tdL (m_pad M) n (m_told M) (rpG (m_pad M) n n 0).2.1) (i + 1)) = ((mdL (tdL (m_pad M) n (m_told M) (rpG (m_pad M) n n 0).2.1) i) + 0) from by rw [mdL_s, if_neg c_7]]; exact lv_sub hl [2, 1, 0] rfl)
          · skip
            refine lv_iconst (v := 1) hx hb dX5_read_34 (by decide) ?_
            refine lv_goto (tgt := 39) hx hb dX5_read_35 (by decide) ?_
            refine lv_iadd hx hb dX5_read_39 ?_
            refine lv_istore_n (lv' := [(1, .int ((mdL (tdL (m_pad M) n (m_told M) (rpG (m_pad M) n n 0).2.1) i) + 1)), (0, .ref h), (2, .int (nI i))]) hx hb dX5_read_40 rfl hl (by decide) rfl (fun ls hl => ?_)
            refine lv_iinc (v := nI (i + 1)) (lv' := [(2, .int (nI (i + 1))), (1, .int ((mdL (tdL (m_pad M) n (m_told M) (rpG (m_pad M) n n 0).2.1) i) + 1)), (0, .ref h)]) hx hb dX5_read_41 hl (k := 2) rfl (nI_1 _) (by decide) rfl (fun ls hl => ?_)
            refine lv_goto (tgt := 14) hx hb dX5_read_44 (by decide) ?_
            exact ih (i + 1) (by omega) _ _ _ hP (D_of hD moF) hS (by rw [show (mdL (tdL (m_pad M) n (m_told M) (rpG (m_pad M) n n 0).2.1) (i + 1)) = ((mdL (tdL (m_pad M) n (m_told M) (rpG (m_pad M) n n 0).2.1) i) + 1) from by rw [mdL_s, if_pos c_7]]; exact lv_sub hl [2, 1, 0] rfl)
    exact loop_14 ((rpG (m_pad M) n n 0).2.1) 0 (by omega) _ _ _ hP (D_of hD moF) hS (lv_sub hl [2, 1, 0] rfl)
  · skip
    exact absurd c_1 hf
