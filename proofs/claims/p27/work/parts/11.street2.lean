/-! class Street: weather, permits, reasons -/
def hasP (pd : Nat → Int32) (w p : Nat) : Int32 := if pd (w * 12 + p) ≤ 0 then 0 else 1
def smD (d : Nat → Int32) : Nat → Int32 | 0 => 0 | i + 1 => smD d i + d i
def mkD (g : Nat → Int32) : Nat → Int32 | 0 => 0 | i + 1 => if g i = 0 then mkD g i else mkD g i ||| ((1 : Int32) <<< (nI i &&& 31))
theorem mkD_s (g : Nat → Int32) (i : Nat) : mkD g (i + 1) = if g i = 0 then mkD g i else mkD g i ||| ((1 : Int32) <<< (nI i &&& 31)) := rfl
theorem bool_nar {c : Prop} [Decidable c] : narrow .boolean (.int (if c then (1 : Int32) else 0)) = .int (if c then (1 : Int32) else 0) := by split <;> rfl
theorem bool_nar2 {c : Prop} [Decidable c] : narrow .boolean (.int (if c then (0 : Int32) else 1)) = .int (if c then (0 : Int32) else 1) := by split <;> rfl
set_option maxHeartbeats 4000000 in
set_option maxRecDepth 100000 in
theorem c_X3_hasPermit (l : Launch) (G : va_G) (ca : Nat → ClassId) (h : Nat) (a : Nat → Nat) (S : SS) (w : Nat) (p : Nat) (hw : w < 6) (hp : p < 12) : CtI l yX3_hasPermit wsX3_hasPermit ({ frames := 1, cells := 0, slots := 0, locals := 21 }) [.ref h, .int (nI w), .int (nI p)] G ca (stT ca h a S) (stT ca h a S) (hasP (s_pd S) w p) := by
  refine CtI.ofW (cc := cX3_hasPermit) (maxL := 3) (rt := .boolean) (by decide) rfl (Nat.le_of_ble_eq_true rfl) bool_nar2 ?_
  intro pr en s m be me c A ls Q H hx hb hml hts hown hev hP hD hA hS hl hret
  have hown : s.vm.findClass RX3 = some m.cls := hown
  have hl : lv_has ls 3 [(0, .ref h), (1, .int (nI w)), (2, .int (nI p))] := hl
  have in_wsX30 : ∀ w ∈ wsX30, w ∈ wsX3_hasPermit := fun _ h => List.mem_cons_of_mem _ (List.mem_append_right _ h)
  refine lv_aload_n hx hb dX3_hasPermit_0 rfl (lv_at hl 0 rfl) ?_
  refine va_get (D := G) (ci := 3) (v := .ref (a 8)) (C := RX3) (T := TX3) (N := 15) hx hb hts in_wsX30 hown hev.1 hP 0 rfl rfl 8 (by decide) (hts (.fieldLink RX3 36 "PuddleMinistries$Street" "permitDays" "[I") (List.mem_of_getElem? (i := 1) rfl)) (fun _ h9 => h9) rfl dX3_hasPermit_1 ?_
  refine lv_iload_n hx hb dX3_hasPermit_4 rfl (lv_at hl 1 rfl) ?_
  refine lv_iload_n hx hb dX3_hasPermit_5 rfl (lv_at hl 2 rfl) ?_
  refine goI0 (va_runSN (As := [.int (nI w), .int (nI p)]) (rest := [.ref (a 8)]) ⟨hx, hb, hml, hown, hts⟩ (CtI.use (c_X4_placeOf l G ca w p) H.size) ⟨va_cnB 2 hts gX3_hasPermit_X4_placeOf_n99 rfl rfl rfl hev.2.2.2.2.1 (hts (.initialized RX4) (List.mem_of_getElem? (i := 3) rfl)) (by decide +kernel) ⟨Nat.le_of_ble_eq_true rfl, Nat.le_of_ble_eq_true rfl⟩, hts (.static yX4_placeOf) (List.mem_of_getElem? (i := 2) rfl), trivial⟩ (pcW_S hev P_nil (D_nil (A := A))) rfl rfl hl.1 rfl (lv_room (Nat.le_of_ble_eq_true rfl)) dX3_hasPermit_6 ⟨Nat.zero_le _, Nat.zero_le _⟩) hP hS hA (fun H locs hP hS => ?_)
  refine b_iald hx hb hev.1 hP 9 rfl rfl (j := (w * 12 + p)) (by omega) (by decide) dX3_hasPermit_9 ?_
  refine lv_if_le (tgt := 17) hx hb dX3_hasPermit_10 (by decide) (fun c_1 => ?_) (fun c_1 => ?_)
  · skip
    refine lv_iconst (v := 0) hx hb dX3_hasPermit_17 (by decide) ?_
    refine lv_eqi (y := hasP (s_pd S) w p) (by rw [hasP, if_pos c_1]) ?_
    exact hret _ _ _ _ hP hS dX3_hasPermit_18
  · skip
    refine lv_iconst (v := 1) hx hb dX3_hasPermit_13 (by decide) ?_
    refine lv_goto (tgt := 18) hx hb dX3_hasPermit_14 (by decide) ?_
    refine lv_eqi (y := hasP (s_pd S) w p) (by rw [hasP, if_neg c_1]) ?_
    exact hret _ _ _ _ hP hS dX3_hasPermit_18
set_option maxHeartbeats 4000000 in
set_option maxRecDepth 100000 in
theorem c_X3_permitsOf (l : Launch) (G : va_G) (ca : Nat → ClassId) (h : Nat) (a : Nat → Nat) (S : SS) (w : Nat) (hw : w < 6) : CtI l yX3_permitsOf wsX3_permitsOf ({ frames := 2, cells := 0, slots := 0, locals := 43 }) [.ref h, .int (nI w)] G ca (stT ca h a S) (stT ca h a S) (mkD (hasP (s_pd S) w) 12) := by
  refine CtI.ofW (cc := cX3_permitsOf) (maxL := 4) (rt := .int) (by decide) rfl (Nat.le_of_ble_eq_true rfl) rfl ?_
  intro pr en s m be me c A ls Q H hx hb hml hts hown hev hP hD hA hS hl hret
  have hown : s.vm.findClass RX3 = some m.cls := hown
  have hl : lv_has ls 4 [(0, .ref h), (1, .int (nI w))] := hl
  have in_wsX30 : ∀ w ∈ wsX30, w ∈ wsX3_permitsOf := fun _ h => List.mem_cons_of_mem _ (List.mem_append_right _ h)
  refine lv_iconst (v := 0) hx hb dX3_permitsOf_0 (by decide) ?_
  refine lv_istore_n (lv' := [(2, .int 0), (0, .ref h), (1, .int (nI w))]) hx hb dX3_permitsOf_1 rfl hl (by decide) rfl (fun ls hl => ?_)
  refine lv_iconst (v := nI 0) hx hb dX3_permitsOf_2 (by decide) ?_
  refine lv_istore_n (lv' := [(3, .int (nI 0)), (2, .int 0), (0, .ref h), (1, .int (nI w))]) hx hb dX3_permitsOf_3 rfl hl (by decide) rfl (fun ls hl => ?_)
  have loop_4 : ∀ (n i : Nat), i + n = 12 → ∀ (H : Heap) (locs : List Loc) (ls : Array Slot), va_P G vwCl (stT ca h a S) H → va_D A (stT ca h a S) → va_S A s.heap H locs → lv_has ls 4 [(0, .ref h), (1, .int (nI w)), (2, .int (mkD (hasP (s_pd S) w) i)), (3, .int (nI i))] → W pr l en ({ frames := 2, cells := 0, slots := 0, locals := 43 } : Room) s m ([.ref h, .int (nI w)] : List Value).toArray be me c H locs 0 0 Q (F0 m 4 ls []) := by
    intro n
    induction n with
    | zero =>
      intro i hi H locs ls hP hD hS hl
      obtain rfl : i = 12 := by omega
      refine lv_iload_n hx hb dX3_permitsOf_4 rfl (lv_at hl 3 rfl) ?_
      refine lv_bipush (v := nI 12) hx hb dX3_permitsOf_5 (by decide) ?_
      refine lv_icmp_ge (tgt := 31) hx hb dX3_permitsOf_7 (by decide) (fun c_1 => ?_) (fun c_1 => ?_)
      · skip
        refine lv_iload_n hx hb dX3_permitsOf_31 rfl (lv_at hl 2 rfl) ?_
        exact hret _ _ _ _ hP hS dX3_permitsOf_32
      · skip
        exact absurd (nI_le (by omega) (by omega)) c_1
    | succ n ih =>
      intro i hi H locs ls hP hD hS hl
      have hlt : i < 12 := by omega
      refine lv_iload_n hx hb dX3_permitsOf_4 rfl (lv_at hl 3 rfl) ?_
      refine lv_bipush (v := nI 12) hx hb dX3_permitsOf_5 (by decide) ?_
      refine lv_icmp_ge (tgt := 31) hx hb dX3_permitsOf_7 (by decide) (fun c_2 => ?_) (fun c_2 => ?_)
      · skip
        exact absurd c_2 (nI_ge (by omega) (by omega))
      · skip
        refine lv_aload_n hx hb dX3_permitsOf_10 rfl (lv_at hl 0 rfl) ?_
        refine lv_iload_n hx hb dX3_permitsOf_11 rfl (lv_at hl 1 rfl) ?_
        refine lv_iload_n hx hb dX3_permitsOf_12 rfl (lv_at hl 3 rfl) ?_
        refine goIw (va_runV (As := [.int (nI w), .int (nI i)]) (rest := []) ⟨hx, hb, hml, hown, hts⟩ (CtI.use (c_X3_hasPermit l G ca h a S w i (by omega) (by omega)) H.size) (cwV 2 hts gX3_permitsOf_X3_hasPermit rfl rfl rfl (by decide +kernel) ⟨Nat.le_of_ble_eq_true rfl, Nat.le_of_ble_eq_true rfl⟩) (pcW_V hev hP hD (q0 := 0) rfl rfl rfl) rfl rfl hl.1 rfl (lv_room (Nat.le_of_ble_eq_true rfl)) dX3_permitsOf_13 ⟨Nat.zero_le _, Nat.zero_le _⟩) hD hS hA stF (fun H locs hP hD hS => ?_)
        refine lv_if_eq (tgt := 25) hx hb dX3_permitsOf_16 (by decide) (fun c_3 => ?_) (fun c_3 => ?_)
        · skip
          refine lv_iinc (v := nI (i + 1)) (lv' := [(3, .int (nI (i + 1))), (0, .ref h), (1, .int (nI w)), (2, .int (mkD (hasP (s_pd S) w) i))]) hx hb dX3_permitsOf_25 hl (k := 3) rfl (nI_1 _) (by decide) rfl (fun ls hl => ?_)
          refine lv_goto (tgt := 4) hx hb dX3_permitsOf_28 (by decide) ?_
          exact ih (i + 1) (by omega) _ _ _ hP (D_of hD stF) hS (by rw [show (mkD (hasP (s_pd S) w) (i + 1)) = (mkD (hasP (s_pd S) w) i) from by rw [mkD_s, if_pos c_3]]; exact lv_sub hl [1, 2, 3, 0] rfl)
        · skip
          refine lv_iload_n hx hb dX3_permitsOf_19 rfl (lv_at hl 2 rfl) ?_
          refine lv_iconst (v := 1) hx hb dX3_permitsOf_20 (by decide) ?_
          refine lv_iload_n hx hb dX3_permitsOf_21 rfl (lv_at hl 3 rfl) ?_
          refine lv_ishl hx hb dX3_permitsOf_22 ?_
          refine lv_ior hx hb dX3_permitsOf_23 ?_
          refine lv_istore_n (lv' := [(2, .int ((mkD (hasP (s_pd S) w) i) ||| (1 <<< ((nI i) &&& 31)))), (0, .ref h), (1, .int (nI w)), (3, .int (nI i))]) hx hb dX3_permitsOf_24 rfl hl (by decide) rfl (fun ls hl => ?_)
          refine lv_iinc (v := nI (i + 1)) (lv' := [(3, .int (nI (i + 1))), (2, .int ((mkD (hasP (s_pd S) w) i) ||| (1 <<< ((nI i) &&& 31)))), (0, .ref h), (1, .int (nI w))]) hx hb dX3_permitsOf_25 hl (k := 3) rfl (nI_1 _) (by decide) rfl (fun ls hl => ?_)
          refine lv_goto (tgt := 4) hx hb dX3_permitsOf_28 (by decide) ?_
          exact ih (i + 1) (by omega) _ _ _ hP (D_of hD stF) hS (by rw [show (mkD (hasP (s_pd S) w) (i + 1)) = ((mkD (hasP (s_pd S) w) i) ||| (1 <<< ((nI i) &&& 31))) from by rw [mkD_s, if_neg c_3]]; exact lv_sub hl [2, 3, 1, 0] rfl)
  exact loop_4 12 0 (by omega) _ _ _ hP (D_of hD stF) hS (lv_sub hl [2, 3, 1, 0] rfl)
set_option maxHeartbeats 4000000 in
set_option maxRecDepth 100000 in
theorem c_X3_permitHoldersAt (l : Launch) (G : va_G) (ca : Nat → ClassId) (h : Nat) (a : Nat → Nat) (S : SS) (p : Nat) (hp : p < 12) : CtI l yX3_permitHoldersAt wsX3_permitHoldersAt ({ frames := 2, cells := 0, slots := 0, locals := 43 }) [.ref h, .int (nI p)] G ca (stT ca h a S) (stT ca h a S) (mkD (fun w => hasP (s_pd S) w p) 6) := by
  refine CtI.ofW (cc := cX3_permitHoldersAt) (maxL := 4) (rt := .int) (by decide) rfl (Nat.le_of_ble_eq_true rfl) rfl ?_
  intro pr en s m be me c A ls Q H hx hb hml hts hown hev hP hD hA hS hl hret
  have hown : s.vm.findClass RX3 = some m.cls := hown
  have hl : lv_has ls 4 [(0, .ref h), (1, .int (nI p))] := hl
  have in_wsX30 : ∀ w ∈ wsX30, w ∈ wsX3_permitHoldersAt := fun _ h => List.mem_cons_of_mem _ (List.mem_append_right _ h)
  refine lv_iconst (v := 0) hx hb dX3_permitHoldersAt_0 (by decide) ?_
  refine lv_istore_n (lv' := [(2, .int 0), (0, .ref h), (1, .int (nI p))]) hx hb dX3_permitHoldersAt_1 rfl hl (by decide) rfl (fun ls hl => ?_)
  refine lv_iconst (v := nI 0) hx hb dX3_permitHoldersAt_2 (by decide) ?_
  refine lv_istore_n (lv' := [(3, .int (nI 0)), (2, .int 0), (0, .ref h), (1, .int (nI p))]) hx hb dX3_permitHoldersAt_3 rfl hl (by decide) rfl (fun ls hl => ?_)
  have loop_4 : ∀ (n i : Nat), i + n = 6 → ∀ (H : Heap) (locs : List Loc) (ls : Array Slot), va_P G vwCl (stT ca h a S) H → va_D A (stT ca h a S) → va_S A s.heap H locs → lv_has ls 4 [(0, .ref h), (1, .int (nI p)), (2, .int (mkD (fun w => hasP (s_pd S) w p) i)), (3, .int (nI i))] → W pr l en ({ frames := 2, cells := 0, slots := 0, locals := 43 } : Room) s m ([.ref h, .int (nI p)] : List Value).toArray be me c H locs 0 0 Q (F0 m 4 ls []) := by
    intro n
    induction n with
    | zero =>
      intro i hi H locs ls hP hD hS hl
      obtain rfl : i = 6 := by omega
      refine lv_iload_n hx hb dX3_permitHoldersAt_4 rfl (lv_at hl 3 rfl) ?_
      refine lv_bipush (v := nI 6) hx hb dX3_permitHoldersAt_5 (by decide) ?_
      refine lv_icmp_ge (tgt := 31) hx hb dX3_permitHoldersAt_7 (by decide) (fun c_1 => ?_) (fun c_1 => ?_)
      · skip
        refine lv_iload_n hx hb dX3_permitHoldersAt_31 rfl (lv_at hl 2 rfl) ?_
        exact hret _ _ _ _ hP hS dX3_permitHoldersAt_32
      · skip
        exact absurd (nI_le (by omega) (by omega)) c_1
    | succ n ih =>
      intro i hi H locs ls hP hD hS hl
      have hlt : i < 6 := by omega
      refine lv_iload_n hx hb dX3_permitHoldersAt_4 rfl (lv_at hl 3 rfl) ?_
      refine lv_bipush (v := nI 6) hx hb dX3_permitHoldersAt_5 (by decide) ?_
      refine lv_icmp_ge (tgt := 31) hx hb dX3_permitHoldersAt_7 (by decide) (fun c_2 => ?_) (fun c_2 => ?_)
      · skip
        exact absurd c_2 (nI_ge (by omega) (by omega))
      · skip
        refine lv_aload_n hx hb dX3_permitHoldersAt_10 rfl (lv_at hl 0 rfl) ?_
        refine lv_iload_n hx hb dX3_permitHoldersAt_11 rfl (lv_at hl 3 rfl) ?_
        refine lv_iload_n hx hb dX3_permitHoldersAt_12 rfl (lv_at hl 1 rfl) ?_
        refine goIw (va_runV (As := [.int (nI i), .int (nI p)]) (rest := []) ⟨hx, hb, hml, hown, hts⟩ (CtI.use (c_X3_hasPermit l G ca h a S i p (by omega) (by omega)) H.size) (cwV 2 hts gX3_permitHoldersAt_X3_hasPermit rfl rfl rfl (by decide +kernel) ⟨Nat.le_of_ble_eq_true rfl, Nat.le_of_ble_eq_true rfl⟩) (pcW_V hev hP hD (q0 := 0) rfl rfl rfl) rfl rfl hl.1 rfl (lv_room (Nat.le_of_ble_eq_true rfl)) dX3_permitHoldersAt_13 ⟨Nat.zero_le _, Nat.zero_le _⟩) hD hS hA stF (fun H locs hP hD hS => ?_)
        refine lv_if_eq (tgt := 25) hx hb dX3_permitHoldersAt_16 (by decide) (fun c_3 => ?_) (fun c_3 => ?_)
        · skip
          refine lv_iinc (v := nI (i + 1)) (lv' := [(3, .int (nI (i + 1))), (0, .ref h), (1, .int (nI p)), (2, .int (mkD (fun w => hasP (s_pd S) w p) i))]) hx hb dX3_permitHoldersAt_25 hl (k := 3) rfl (nI_1 _) (by decide) rfl (fun ls hl => ?_)
          refine lv_goto (tgt := 4) hx hb dX3_permitHoldersAt_28 (by decide) ?_
          exact ih (i + 1) (by omega) _ _ _ hP (D_of hD stF) hS (by rw [show (mkD (fun w => hasP (s_pd S) w p) (i + 1)) = (mkD (fun w => hasP (s_pd S) w p) i) from by rw [mkD_s, if_pos c_3]]; exact lv_sub hl [1, 2, 3, 0] rfl)
        · skip
          refine lv_iload_n hx hb dX3_permitHoldersAt_19 rfl (lv_at hl 2 rfl) ?_
          refine lv_iconst (v := 1) hx hb dX3_permitHoldersAt_20 (by decide) ?_
          refine lv_iload_n hx hb dX3_permitHoldersAt_21 rfl (lv_at hl 3 rfl) ?_
          refine lv_ishl hx hb dX3_permitHoldersAt_22 ?_
          refine lv_ior hx hb dX3_permitHoldersAt_23 ?_
          refine lv_istore_n (lv' := [(2, .int ((mkD (fun w => hasP (s_pd S) w p) i) ||| (1 <<< ((nI i) &&& 31)))), (0, .ref h), (1, .int (nI p)), (3, .int (nI i))]) hx hb dX3_permitHoldersAt_24 rfl hl (by decide) rfl (fun ls hl => ?_)
          refine lv_iinc (v := nI (i + 1)) (lv' := [(3, .int (nI (i + 1))), (2, .int ((mkD (fun w => hasP (s_pd S) w p) i) ||| (1 <<< ((nI i) &&& 31)))), (0, .ref h), (1, .int (nI p))]) hx hb dX3_permitHoldersAt_25 hl (k := 3) rfl (nI_1 _) (by decide) rfl (fun ls hl => ?_)
          refine lv_goto (tgt := 4) hx hb dX3_permitHoldersAt_28 (by decide) ?_
          exact ih (i + 1) (by omega) _ _ _ hP (D_of hD stF) hS (by rw [show (mkD (fun w => hasP (s_pd S) w p) (i + 1)) = ((mkD (fun w => hasP (s_pd S) w p) i) ||| (1 <<< ((nI i) &&& 31))) from by rw [mkD_s, if_neg c_3]]; exact lv_sub hl [2, 3, 1, 0] rfl)
  exact loop_4 6 0 (by omega) _ _ _ hP (D_of hD stF) hS (lv_sub hl [2, 3, 1, 0] rfl)
def bc1 (x : Int32) : Int32 := x - (((x.toUInt32 >>> ((1 : Int32).toUInt32 &&& Int32.toUInt32 31)).toInt32) &&& 1431655765)
def bc2 (x : Int32) : Int32 := (x &&& 858993459) + (((x.toUInt32 >>> ((2 : Int32).toUInt32 &&& Int32.toUInt32 31)).toInt32) &&& 858993459)
def bc3 (x : Int32) : Int32 := (x + ((x.toUInt32 >>> ((4 : Int32).toUInt32 &&& Int32.toUInt32 31)).toInt32)) &&& 252645135
def bc4 (x : Int32) : Int32 := x + ((x.toUInt32 >>> ((8 : Int32).toUInt32 &&& Int32.toUInt32 31)).toInt32)
def bc5 (x : Int32) : Int32 := x + ((x.toUInt32 >>> ((16 : Int32).toUInt32 &&& Int32.toUInt32 31)).toInt32)
def bcN (x : Int32) : Int32 := bc5 (bc4 (bc3 (bc2 (bc1 x)))) &&& 63
set_option maxHeartbeats 4000000 in
set_option maxRecDepth 100000 in
theorem c_J6_bitCount_0f7a4 (l : Launch) (G : va_G) (ca : Nat → ClassId) (x : Int32) : CtI l yJ6_bitCount_0f7a4 wsJ6_bitCount_0f7a4 ({ frames := 0, cells := 0, slots := 0, locals := 0 }) [.int x] G ca ([]) ([]) (bcN x) := by
  refine CtI.ofW (cc := cJ6_bitCount_0f7a4) (maxL := 1) (rt := .int) (by decide) rfl (Nat.le_of_ble_eq_true rfl) rfl ?_
  intro pr en s m be me c A ls Q H hx hb hml hts hown hev hP hD hA hS hl hret
  have hown : s.vm.findClass RJ6 = some m.cls := hown
  have hl : lv_has ls 1 [(0, .int x)] := hl
  refine lv_iload_n hx hb dJ6_bitCount_0f7a4_0 rfl (lv_at hl 0 rfl) ?_
  refine lv_iload_n hx hb dJ6_bitCount_0f7a4_1 rfl (lv_at hl 0 rfl) ?_
  refine lv_iconst (v := 1) hx hb dJ6_bitCount_0f7a4_2 (by decide) ?_
  refine lv_iushr (v := (x.toUInt32 >>> ((1 : Int32).toUInt32 &&& Int32.toUInt32 31)).toInt32) hx hb dJ6_bitCount_0f7a4_3 rfl ?_
  refine lv_ldcw hx hb hown (hts (.constant RJ6 265 (1431655765)) (List.mem_of_getElem? (i := 1) rfl)) dJ6_bitCount_0f7a4_4 ?_
  refine lv_iand hx hb dJ6_bitCount_0f7a4_7 ?_
  refine lv_isub hx hb dJ6_bitCount_0f7a4_8 ?_
  refine lv_eqi (y := bc1 x) rfl ?_
  refine lv_istore_n (lv' := [(0, .int (bc1 x))]) hx hb dJ6_bitCount_0f7a4_9 rfl hl (by decide) rfl (fun ls hl => ?_)
  refine lv_iload_n hx hb dJ6_bitCount_0f7a4_10 rfl (lv_at hl 0 rfl) ?_
  refine lv_ldcw hx hb hown (hts (.constant RJ6 266 (858993459)) (List.mem_of_getElem? (i := 2) rfl)) dJ6_bitCount_0f7a4_11 ?_
  refine lv_iand hx hb dJ6_bitCount_0f7a4_14 ?_
  refine lv_iload_n hx hb dJ6_bitCount_0f7a4_15 rfl (lv_at hl 0 rfl) ?_
  refine lv_iconst (v := 2) hx hb dJ6_bitCount_0f7a4_16 (by decide) ?_
  refine lv_iushr (v := ((bc1 x).toUInt32 >>> ((2 : Int32).toUInt32 &&& Int32.toUInt32 31)).toInt32) hx hb dJ6_bitCount_0f7a4_17 rfl ?_
  refine lv_ldcw hx hb hown (hts (.constant RJ6 266 (858993459)) (List.mem_of_getElem? (i := 2) rfl)) dJ6_bitCount_0f7a4_18 ?_
  refine lv_iand hx hb dJ6_bitCount_0f7a4_21 ?_
  refine lv_iadd hx hb dJ6_bitCount_0f7a4_22 ?_
  refine lv_eqi (y := bc2 (bc1 x)) rfl ?_
  refine lv_istore_n (lv' := [(0, .int (bc2 (bc1 x)))]) hx hb dJ6_bitCount_0f7a4_23 rfl hl (by decide) rfl (fun ls hl => ?_)
  refine lv_iload_n hx hb dJ6_bitCount_0f7a4_24 rfl (lv_at hl 0 rfl) ?_
  refine lv_iload_n hx hb dJ6_bitCount_0f7a4_25 rfl (lv_at hl 0 rfl) ?_
  refine lv_iconst (v := 4) hx hb dJ6_bitCount_0f7a4_26 (by decide) ?_
  refine lv_iushr (v := ((bc2 (bc1 x)).toUInt32 >>> ((4 : Int32).toUInt32 &&& Int32.toUInt32 31)).toInt32) hx hb dJ6_bitCount_0f7a4_27 rfl ?_
  refine lv_iadd hx hb dJ6_bitCount_0f7a4_28 ?_
  refine lv_ldcw hx hb hown (hts (.constant RJ6 267 (252645135)) (List.mem_of_getElem? (i := 3) rfl)) dJ6_bitCount_0f7a4_29 ?_
  refine lv_iand hx hb dJ6_bitCount_0f7a4_32 ?_
  refine lv_eqi (y := bc3 (bc2 (bc1 x))) rfl ?_
  refine lv_istore_n (lv' := [(0, .int (bc3 (bc2 (bc1 x))))]) hx hb dJ6_bitCount_0f7a4_33 rfl hl (by decide) rfl (fun ls hl => ?_)
  refine lv_iload_n hx hb dJ6_bitCount_0f7a4_34 rfl (lv_at hl 0 rfl) ?_
  refine lv_iload_n hx hb dJ6_bitCount_0f7a4_35 rfl (lv_at hl 0 rfl) ?_
  refine lv_bipush (v := 8) hx hb dJ6_bitCount_0f7a4_36 (by decide) ?_
  refine lv_iushr (v := ((bc3 (bc2 (bc1 x))).toUInt32 >>> ((8 : Int32).toUInt32 &&& Int32.toUInt32 31)).toInt32) hx hb dJ6_bitCount_0f7a4_38 rfl ?_
  refine lv_iadd hx hb dJ6_bitCount_0f7a4_39 ?_
  refine lv_eqi (y := bc4 (bc3 (bc2 (bc1 x)))) rfl ?_
  refine lv_istore_n (lv' := [(0, .int (bc4 (bc3 (bc2 (bc1 x)))))]) hx hb dJ6_bitCount_0f7a4_40 rfl hl (by decide) rfl (fun ls hl => ?_)
  refine lv_iload_n hx hb dJ6_bitCount_0f7a4_41 rfl (lv_at hl 0 rfl) ?_
  refine lv_iload_n hx hb dJ6_bitCount_0f7a4_42 rfl (lv_at hl 0 rfl) ?_
  refine lv_bipush (v := 16) hx hb dJ6_bitCount_0f7a4_43 (by decide) ?_
  refine lv_iushr (v := ((bc4 (bc3 (bc2 (bc1 x)))).toUInt32 >>> ((16 : Int32).toUInt32 &&& Int32.toUInt32 31)).toInt32) hx hb dJ6_bitCount_0f7a4_45 rfl ?_
  refine lv_iadd hx hb dJ6_bitCount_0f7a4_46 ?_
  refine lv_eqi (y := bc5 (bc4 (bc3 (bc2 (bc1 x))))) rfl ?_
  refine lv_istore_n (lv' := [(0, .int (bc5 (bc4 (bc3 (bc2 (bc1 x))))))]) hx hb dJ6_bitCount_0f7a4_47 rfl hl (by decide) rfl (fun ls hl => ?_)
  refine lv_iload_n hx hb dJ6_bitCount_0f7a4_48 rfl (lv_at hl 0 rfl) ?_
  refine lv_bipush (v := 63) hx hb dJ6_bitCount_0f7a4_49 (by decide) ?_
  refine lv_iand hx hb dJ6_bitCount_0f7a4_51 ?_
  refine lv_eqi (y := bcN x) rfl ?_
  exact hret _ _ _ _ hP hS dJ6_bitCount_0f7a4_52
set_option maxHeartbeats 4000000 in
set_option maxRecDepth 100000 in
theorem c_X3_allPermits (l : Launch) (G : va_G) (ca : Nat → ClassId) (h : Nat) (a : Nat → Nat) (S : SS) : CtI l yX3_allPermits wsX3_allPermits ({ frames := 3, cells := 0, slots := 0, locals := 66 }) [.ref h] G ca (stT ca h a S) (stT ca h a S) (smD (fun w => bcN (mkD (hasP (s_pd S) w) 12)) 6) := by
  refine CtI.ofW (cc := cX3_allPermits) (maxL := 3) (rt := .int) (by decide) rfl (Nat.le_of_ble_eq_true rfl) rfl ?_
  intro pr en s m be me c A ls Q H hx hb hml hts hown hev hP hD hA hS hl hret
  have hown : s.vm.findClass RX3 = some m.cls := hown
  have hl : lv_has ls 3 [(0, .ref h)] := hl
  have in_wsX30 : ∀ w ∈ wsX30, w ∈ wsX3_allPermits := fun _ h => List.mem_cons_of_mem _ (List.mem_append_right _ h)
  refine lv_iconst (v := 0) hx hb dX3_allPermits_0 (by decide) ?_
  refine lv_istore_n (lv' := [(1, .int 0), (0, .ref h)]) hx hb dX3_allPermits_1 rfl hl (by decide) rfl (fun ls hl => ?_)
  refine lv_iconst (v := nI 0) hx hb dX3_allPermits_2 (by decide) ?_
  refine lv_istore_n (lv' := [(2, .int (nI 0)), (1, .int 0), (0, .ref h)]) hx hb dX3_allPermits_3 rfl hl (by decide) rfl (fun ls hl => ?_)
  have loop_4 : ∀ (n i : Nat), i + n = 6 → ∀ (H : Heap) (locs : List Loc) (ls : Array Slot), va_P G vwCl (stT ca h a S) H → va_D A (stT ca h a S) → va_S A s.heap H locs → lv_has ls 3 [(0, .ref h), (1, .int (smD (fun w => bcN (mkD (hasP (s_pd S) w) 12)) i)), (2, .int (nI i))] → W pr l en ({ frames := 3, cells := 0, slots := 0, locals := 66 } : Room) s m ([.ref h] : List Value).toArray be me c H locs 0 0 Q (F0 m 4 ls []) := by
    intro n
    induction n with
    | zero =>
      intro i hi H locs ls hP hD hS hl
      obtain rfl : i = 6 := by omega
      refine lv_iload_n hx hb dX3_allPermits_4 rfl (lv_at hl 2 rfl) ?_
      refine lv_bipush (v := nI 6) hx hb dX3_allPermits_5 (by decide) ?_
      refine lv_icmp_ge (tgt := 27) hx hb dX3_allPermits_7 (by decide) (fun c_1 => ?_) (fun c_1 => ?_)
      · skip
        refine lv_iload_n hx hb dX3_allPermits_27 rfl (lv_at hl 1 rfl) ?_
        exact hret _ _ _ _ hP hS dX3_allPermits_28
      · skip
        exact absurd (nI_le (by omega) (by omega)) c_1
    | succ n ih =>
      intro i hi H locs ls hP hD hS hl
      have hlt : i < 6 := by omega
      refine lv_iload_n hx hb dX3_allPermits_4 rfl (lv_at hl 2 rfl) ?_
      refine lv_bipush (v := nI 6) hx hb dX3_allPermits_5 (by decide) ?_
      refine lv_icmp_ge (tgt := 27) hx hb dX3_allPermits_7 (by decide) (fun c_2 => ?_) (fun c_2 => ?_)
      · skip
        exact absurd c_2 (nI_ge (by omega) (by omega))
      · skip
        refine lv_iload_n hx hb dX3_allPermits_10 rfl (lv_at hl 1 rfl) ?_
        refine lv_aload_n hx hb dX3_allPermits_11 rfl (lv_at hl 0 rfl) ?_
        refine lv_iload_n hx hb dX3_allPermits_12 rfl (lv_at hl 2 rfl) ?_
        refine goIw (va_runV (As := [.int (nI i)]) (rest := [.int (smD (fun w => bcN (mkD (hasP (s_pd S) w) 12)) i)]) ⟨hx, hb, hml, hown, hts⟩ (CtI.use (c_X3_permitsOf l G ca h a S i (by omega)) H.size) (cwV 1 hts gX3_allPermits_X3_permitsOf rfl rfl rfl (by decide +kernel) ⟨Nat.le_of_ble_eq_true rfl, Nat.le_of_ble_eq_true rfl⟩) (pcW_V hev hP hD (q0 := 0) rfl rfl rfl) rfl rfl hl.1 rfl (lv_room (Nat.le_of_ble_eq_true rfl)) dX3_allPermits_13 ⟨Nat.zero_le _, Nat.zero_le _⟩) hD hS hA stF (fun H locs hP hD hS => ?_)
        refine goI0 (va_runS (As := [.int (mkD (hasP (s_pd S) i) 12)]) (rest := [.int (smD (fun w => bcN (mkD (hasP (s_pd S) w) 12)) i)]) ⟨hx, hb, hml, hown, hts⟩ (CtI.use (c_J6_bitCount_0f7a4 l G ca (mkD (hasP (s_pd S) i) 12)) H.size) (va_cwS 1 hts gX3_allPermits_J6_bitCount_0f7a4 rfl rfl rfl (by decide +kernel) ⟨Nat.le_of_ble_eq_true rfl, Nat.le_of_ble_eq_true rfl⟩) (pcW_S hev P_nil (D_nil (A := A))) rfl rfl hl.1 rfl (lv_room (Nat.le_of_ble_eq_true rfl)) dX3_allPermits_16 ⟨Nat.zero_le _, Nat.zero_le _⟩) hP hS hA (fun H locs hP hS => ?_)
        refine lv_iadd hx hb dX3_allPermits_19 ?_
        refine lv_istore_n (lv' := [(1, .int ((smD (fun w => bcN (mkD (hasP (s_pd S) w) 12)) i) + (bcN (mkD (hasP (s_pd S) i) 12)))), (0, .ref h), (2, .int (nI i))]) hx hb dX3_allPermits_20 rfl hl (by decide) rfl (fun ls hl => ?_)
        refine lv_iinc (v := nI (i + 1)) (lv' := [(2, .int (nI (i + 1))), (1, .int ((smD (fun w => bcN (mkD (hasP (s_pd S) w) 12)) i) + (bcN (mkD (hasP (s_pd S) i) 12)))), (0, .ref h)]) hx hb dX3_allPermits_21 hl (k := 2) rfl (nI_1 _) (by decide) rfl (fun ls hl => ?_)
        refine lv_goto (tgt := 4) hx hb dX3_allPermits_24 (by decide) ?_
        exact ih (i + 1) (by omega) _ _ _ hP (D_of hD stF) hS (lv_sub hl [2, 1, 0] rfl)
  exact loop_4 6 0 (by omega) _ _ _ hP (D_of hD stF) hS (lv_sub hl [2, 1, 0] rfl)
def rsnA (S : SS) (w p : Nat) (sh : Int32) : Int32 := if bt1 (s_dk S) p = 0 then (if hasP (s_pd S) w p = 0 then (if bt1 (s_fz S) p = 0 then (if s_wa S p / 5 ≤ 1 + 2 * sh then 0 else 2) else (if s_wa S p / 5 < 1 then 0 else 3)) else 0) else 1
def mayC (S : SS) (w p : Nat) : Int32 := if rsnA S w p (s_sh S w) = 0 then 1 else 0
def dutyA (S : SS) (p : Nat) : Int32 := if bt1 (s_fz S) p = 0 then s_se S 0 * (s_wa S p / 5) else 0
set_option maxHeartbeats 4000000 in
set_option maxRecDepth 100000 in
theorem c_X3_depthKeptOut (l : Launch) (G : va_G) (ca : Nat → ClassId) (x : Int32) : CtI l yX3_depthKeptOut wsX3_depthKeptOut ({ frames := 0, cells := 0, slots := 0, locals := 0 }) [.int x] G ca ([]) ([]) (1 + 2 * x) := by
  refine CtI.ofW (cc := cX3_depthKeptOut) (maxL := 1) (rt := .int) (by decide) rfl (Nat.le_of_ble_eq_true rfl) rfl ?_
  intro pr en s m be me c A ls Q H hx hb hml hts hown hev hP hD hA hS hl hret
  have hown : s.vm.findClass RX3 = some m.cls := hown
  have hl : lv_has ls 1 [(0, .int x)] := hl
  refine lv_iconst (v := 1) hx hb dX3_depthKeptOut_0 (by decide) ?_
  refine lv_iconst (v := 2) hx hb dX3_depthKeptOut_1 (by decide) ?_
  refine lv_iload_n hx hb dX3_depthKeptOut_2 rfl (lv_at hl 0 rfl) ?_
  refine lv_imul hx hb dX3_depthKeptOut_3 ?_
  refine lv_iadd hx hb dX3_depthKeptOut_4 ?_
  refine lv_eqi (y := 1 + 2 * x) rfl ?_
  exact hret _ _ _ _ hP hS dX3_depthKeptOut_5
set_option maxHeartbeats 4000000 in
set_option maxRecDepth 100000 in
theorem c_X3_reasonAgainst (l : Launch) (G : va_G) (ca : Nat → ClassId) (h : Nat) (a : Nat → Nat) (S : SS) (w : Nat) (p : Nat) (x : Int32) (hw : w < 6) (hp : p < 12) : CtI l yX3_reasonAgainst wsX3_reasonAgainst ({ frames := 2, cells := 0, slots := 0, locals := 43 }) [.ref h, .int (nI w), .int (nI p), .int x] G ca (stT ca h a S) (stT ca h a S) (rsnA S w p x) := by
  refine CtI.ofW (cc := cX3_reasonAgainst) (maxL := 5) (rt := .int) (by decide) rfl (Nat.le_of_ble_eq_true rfl) rfl ?_
  intro pr en s m be me c A ls Q H hx hb hml hts hown hev hP hD hA hS hl hret
  have hown : s.vm.findClass RX3 = some m.cls := hown
  have hl : lv_has ls 5 [(0, .ref h), (1, .int (nI w)), (2, .int (nI p)), (3, .int x)] := hl
  have in_wsX30 : ∀ w ∈ wsX30, w ∈ wsX3_reasonAgainst := fun _ h => List.mem_cons_of_mem _ (List.mem_append_right _ h)
  refine lv_aload_n hx hb dX3_reasonAgainst_0 rfl (lv_at hl 0 rfl) ?_
  refine lv_iload_n hx hb dX3_reasonAgainst_1 rfl (lv_at hl 2 rfl) ?_
  refine goIw (va_runV (As := [.int (nI p)]) (rest := []) ⟨hx, hb, hml, hown, hts⟩ (CtI.use (c_X3_hasDucks l G ca h a S p) H.size) (cwV 1 hts gX3_reasonAgainst_X3_hasDucks rfl rfl rfl (by decide +kernel) ⟨Nat.le_of_ble_eq_true rfl, Nat.le_of_ble_eq_true rfl⟩) (pcW_V hev hP hD (q0 := 0) rfl rfl rfl) rfl rfl hl.1 rfl (lv_room (Nat.le_of_ble_eq_true rfl)) dX3_reasonAgainst_2 ⟨Nat.zero_le _, Nat.zero_le _⟩) hD hS hA stF (fun H locs hP hD hS => ?_)
  refine lv_if_eq (tgt := 10) hx hb dX3_reasonAgainst_5 (by decide) (fun c_1 => ?_) (fun c_1 => ?_)
  · skip
    refine lv_aload_n hx hb dX3_reasonAgainst_10 rfl (lv_at hl 0 rfl) ?_
    refine lv_iload_n hx hb dX3_reasonAgainst_11 rfl (lv_at hl 1 rfl) ?_
    refine lv_iload_n hx hb dX3_reasonAgainst_12 rfl (lv_at hl 2 rfl) ?_
    refine goIw (va_runV (As := [.int (nI w), .int (nI p)]) (rest := []) ⟨hx, hb, hml, hown, hts⟩ (CtI.use (c_X3_hasPermit l G ca h a S w p (by omega) (by omega)) H.size) (cwV 2 hts gX3_reasonAgainst_X3_hasPermit rfl rfl rfl (by decide +kernel) ⟨Nat.le_of_ble_eq_true rfl, Nat.le_of_ble_eq_true rfl⟩) (pcW_V hev hP hD (q0 := 0) rfl rfl rfl) rfl rfl hl.1 rfl (lv_room (Nat.le_of_ble_eq_true rfl)) dX3_reasonAgainst_13 ⟨Nat.zero_le _, Nat.zero_le _⟩) hD hS hA stF (fun H locs hP hD hS => ?_)
    refine lv_if_eq (tgt := 21) hx hb dX3_reasonAgainst_16 (by decide) (fun c_2 => ?_) (fun c_2 => ?_)
    · skip
      refine lv_aload_n hx hb dX3_reasonAgainst_21 rfl (lv_at hl 0 rfl) ?_
      refine lv_iload_n hx hb dX3_reasonAgainst_22 rfl (lv_at hl 2 rfl) ?_
      refine goIw (va_runV (As := [.int (nI p)]) (rest := []) ⟨hx, hb, hml, hown, hts⟩ (CtI.use (c_X3_depth l G ca h a S p (by omega)) H.size) (cwV 1 hts gX3_reasonAgainst_X3_depth rfl rfl rfl (by decide +kernel) ⟨Nat.le_of_ble_eq_true rfl, Nat.le_of_ble_eq_true rfl⟩) (pcW_V hev hP hD (q0 := 0) rfl rfl rfl) rfl rfl hl.1 rfl (lv_room (Nat.le_of_ble_eq_true rfl)) dX3_reasonAgainst_23 ⟨Nat.zero_le _, Nat.zero_le _⟩) hD hS hA stF (fun H locs hP hD hS => ?_)
      refine lv_eqi (y := (s_wa S) p / 5) rfl ?_
      refine lv_istore (lv' := [(4, .int ((s_wa S) p / 5)), (0, .ref h), (1, .int (nI w)), (2, .int (nI p)), (3, .int x)]) hx hb dX3_reasonAgainst_26 hl (by decide) rfl (fun ls hl => ?_)
      refine lv_aload_n hx hb dX3_reasonAgainst_28 rfl (lv_at hl 1 rfl) ?_
      refine lv_iload_n hx hb dX3_reasonAgainst_29 rfl (lv_at hl 3 rfl) ?_
      refine goIw (va_runV (As := [.int (nI p)]) (rest := []) ⟨hx, hb, hml, hown, hts⟩ (CtI.use (c_X3_isFrozen l G ca h a S p) H.size) (cwV 1 hts gX3_reasonAgainst_X3_isFrozen rfl rfl rfl (by decide +kernel) ⟨Nat.le_of_ble_eq_true rfl, Nat.le_of_ble_eq_true rfl⟩) (pcW_V hev hP hD (q0 := 0) rfl rfl rfl) rfl rfl hl.1 rfl (lv_room (Nat.le_of_ble_eq_true rfl)) dX3_reasonAgainst_30 ⟨Nat.zero_le _, Nat.zero_le _⟩) hD hS hA stF (fun H locs hP hD hS => ?_)
      refine lv_if_eq (tgt := 48) hx hb dX3_reasonAgainst_33 (by decide) (fun c_3 => ?_) (fun c_3 => ?_)
      · skip
        refine lv_iload hx hb dX3_reasonAgainst_48 (lv_at hl 0 rfl) ?_
        refine lv_iload_n hx hb dX3_reasonAgainst_50 rfl (lv_at hl 4 rfl) ?_
        refine goI0 (va_runS (As := [.int x]) (rest := [.int ((s_wa S) p / 5)]) ⟨hx, hb, hml, hown, hts⟩ (CtI.use (c_X3_depthKeptOut l G ca x) H.size) (va_cwS 1 hts gX3_reasonAgainst_X3_depthKeptOut rfl rfl rfl (by decide +kernel) ⟨Nat.le_of_ble_eq_true rfl, Nat.le_of_ble_eq_true rfl⟩) (pcW_S hev P_nil (D_nil (A := A))) rfl rfl hl.1 rfl (lv_room (Nat.le_of_ble_eq_true rfl)) dX3_reasonAgainst_51 ⟨Nat.zero_le _, Nat.zero_le _⟩) hP hS hA (fun H locs hP hS => ?_)
        refine lv_icmp_le (tgt := 61) hx hb dX3_reasonAgainst_54 (by decide) (fun c_4 => ?_) (fun c_4 => ?_)
        · skip
          refine lv_iconst (v := 0) hx hb dX3_reasonAgainst_61 (by decide) ?_
          refine lv_eqi (y := rsnA S w p x) (by rw [rsnA, if_pos c_1, if_pos c_2, if_pos c_3, if_pos c_4]) ?_
          exact hret _ _ _ _ hP hS dX3_reasonAgainst_62
        · skip
          refine lv_iconst (v := 2) hx hb dX3_reasonAgainst_57 (by decide) ?_
          refine lv_goto (tgt := 62) hx hb dX3_reasonAgainst_58 (by decide) ?_
          refine lv_eqi (y := rsnA S w p x) (by rw [rsnA, if_pos c_1, if_pos c_2, if_pos c_3, if_neg c_4]) ?_
          exact hret _ _ _ _ hP hS dX3_reasonAgainst_62
      · skip
        refine lv_iload hx hb dX3_reasonAgainst_36 (lv_at hl 0 rfl) ?_
        refine lv_iconst (v := 1) hx hb dX3_reasonAgainst_38 (by decide) ?_
        refine lv_icmp_lt (tgt := 46) hx hb dX3_reasonAgainst_39 (by decide) (fun c_5 => ?_) (fun c_5 => ?_)
        · skip
          refine lv_iconst (v := 0) hx hb dX3_reasonAgainst_46 (by decide) ?_
          refine lv_eqi (y := rsnA S w p x) (by rw [rsnA, if_pos c_1, if_pos c_2, if_neg c_3, if_pos c_5]) ?_
          exact hret _ _ _ _ hP hS dX3_reasonAgainst_47
        · skip
          refine lv_iconst (v := 3) hx hb dX3_reasonAgainst_42 (by decide) ?_
          refine lv_goto (tgt := 47) hx hb dX3_reasonAgainst_43 (by decide) ?_
          refine lv_eqi (y := rsnA S w p x) (by rw [rsnA, if_pos c_1, if_pos c_2, if_neg c_3, if_neg c_5]) ?_
          exact hret _ _ _ _ hP hS dX3_reasonAgainst_47
    · skip
      refine lv_iconst (v := 0) hx hb dX3_reasonAgainst_19 (by decide) ?_
      refine lv_eqi (y := rsnA S w p x) (by rw [rsnA, if_pos c_1, if_neg c_2]) ?_
      exact hret _ _ _ _ hP hS dX3_reasonAgainst_20
  · skip
    refine lv_iconst (v := 1) hx hb dX3_reasonAgainst_8 (by decide) ?_
    refine lv_eqi (y := rsnA S w p x) (by rw [rsnA, if_neg c_1]) ?_
    exact hret _ _ _ _ hP hS dX3_reasonAgainst_9
set_option maxHeartbeats 4000000 in
set_option maxRecDepth 100000 in
theorem c_X3_mayCross (l : Launch) (G : va_G) (ca : Nat → ClassId) (h : Nat) (a : Nat → Nat) (S : SS) (w : Nat) (p : Nat) (hw : w < 6) (hp : p < 12) : CtI l yX3_mayCross wsX3_mayCross ({ frames := 3, cells := 0, slots := 0, locals := 67 }) [.ref h, .int (nI w), .int (nI p)] G ca (stT ca h a S) (stT ca h a S) (mayC S w p) := by
  refine CtI.ofW (cc := cX3_mayCross) (maxL := 3) (rt := .boolean) (by decide) rfl (Nat.le_of_ble_eq_true rfl) bool_nar ?_
  intro pr en s m be me c A ls Q H hx hb hml hts hown hev hP hD hA hS hl hret
  have hown : s.vm.findClass RX3 = some m.cls := hown
  have hl : lv_has ls 3 [(0, .ref h), (1, .int (nI w)), (2, .int (nI p))] := hl
  have in_wsX30 : ∀ w ∈ wsX30, w ∈ wsX3_mayCross := fun _ h => List.mem_cons_of_mem _ (List.mem_append_right _ h)
  refine lv_aload_n hx hb dX3_mayCross_0 rfl (lv_at hl 0 rfl) ?_
  refine lv_iload_n hx hb dX3_mayCross_1 rfl (lv_at hl 1 rfl) ?_
  refine lv_iload_n hx hb dX3_mayCross_2 rfl (lv_at hl 2 rfl) ?_
  refine lv_aload_n hx hb dX3_mayCross_3 rfl (lv_at hl 0 rfl) ?_
  refine va_get (D := G) (ci := 3) (v := .ref (a 4)) (C := RX3) (T := TX3) (N := 15) hx hb hts in_wsX30 hown hev.1 hP 0 rfl rfl 4 (by decide) (hts (.fieldLink RX3 24 "PuddleMinistries$Street" "shoesOf" "[I") (List.mem_of_getElem? (i := 1) rfl)) (fun _ h9 => h9) rfl dX3_mayCross_4 ?_
  refine lv_iload_n hx hb dX3_mayCross_7 rfl (lv_at hl 1 rfl) ?_
  refine b_iald hx hb hev.1 hP 5 rfl rfl (j := w) (by omega) (by decide) dX3_mayCross_8 ?_
  refine goIw (va_runV (As := [.int (nI w), .int (nI p), .int ((s_sh S) w)]) (rest := []) ⟨hx, hb, hml, hown, hts⟩ (CtI.use (c_X3_reasonAgainst l G ca h a S w p ((s_sh S) w) (by omega) (by omega)) H.size) (cwV 3 hts gX3_mayCross_X3_reasonAgainst rfl rfl rfl (by decide +kernel) ⟨Nat.le_of_ble_eq_true rfl, Nat.le_of_ble_eq_true rfl⟩) (pcW_V hev hP hD (q0 := 0) rfl rfl rfl) rfl rfl hl.1 rfl (lv_room (Nat.le_of_ble_eq_true rfl)) dX3_mayCross_9 ⟨Nat.zero_le _, Nat.zero_le _⟩) hD hS hA stF (fun H locs hP hD hS => ?_)
  refine lv_if_ne (tgt := 19) hx hb dX3_mayCross_12 (by decide) (fun c_1 => ?_) (fun c_1 => ?_)
  · skip
    refine lv_iconst (v := 0) hx hb dX3_mayCross_19 (by decide) ?_
    refine lv_eqi (y := mayC S w p) (by rw [mayC, if_neg c_1]) ?_
    exact hret _ _ _ _ hP hS dX3_mayCross_20
  · skip
    refine lv_iconst (v := 1) hx hb dX3_mayCross_15 (by decide) ?_
    refine lv_goto (tgt := 20) hx hb dX3_mayCross_16 (by decide) ?_
    refine lv_eqi (y := mayC S w p) (by rw [mayC, if_pos c_1]) ?_
    exact hret _ _ _ _ hP hS dX3_mayCross_20
set_option maxHeartbeats 4000000 in
set_option maxRecDepth 100000 in
theorem c_X3_allowedFor (l : Launch) (G : va_G) (ca : Nat → ClassId) (h : Nat) (a : Nat → Nat) (S : SS) (w : Nat) (hw : w < 6) : CtI l yX3_allowedFor wsX3_allowedFor ({ frames := 4, cells := 0, slots := 0, locals := 89 }) [.ref h, .int (nI w)] G ca (stT ca h a S) (stT ca h a S) (mkD (mayC S w) 12) := by
  refine CtI.ofW (cc := cX3_allowedFor) (maxL := 4) (rt := .int) (by decide) rfl (Nat.le_of_ble_eq_true rfl) rfl ?_
  intro pr en s m be me c A ls Q H hx hb hml hts hown hev hP hD hA hS hl hret
  have hown : s.vm.findClass RX3 = some m.cls := hown
  have hl : lv_has ls 4 [(0, .ref h), (1, .int (nI w))] := hl
  have in_wsX30 : ∀ w ∈ wsX30, w ∈ wsX3_allowedFor := fun _ h => List.mem_cons_of_mem _ (List.mem_append_right _ h)
  refine lv_iconst (v := 0) hx hb dX3_allowedFor_0 (by decide) ?_
  refine lv_istore_n (lv' := [(2, .int 0), (0, .ref h), (1, .int (nI w))]) hx hb dX3_allowedFor_1 rfl hl (by decide) rfl (fun ls hl => ?_)
  refine lv_iconst (v := nI 0) hx hb dX3_allowedFor_2 (by decide) ?_
  refine lv_istore_n (lv' := [(3, .int (nI 0)), (2, .int 0), (0, .ref h), (1, .int (nI w))]) hx hb dX3_allowedFor_3 rfl hl (by decide) rfl (fun ls hl => ?_)
  have loop_4 : ∀ (n i : Nat), i + n = 12 → ∀ (H : Heap) (locs : List Loc) (ls : Array Slot), va_P G vwCl (stT ca h a S) H → va_D A (stT ca h a S) → va_S A s.heap H locs → lv_has ls 4 [(0, .ref h), (1, .int (nI w)), (2, .int (mkD (mayC S w) i)), (3, .int (nI i))] → W pr l en ({ frames := 4, cells := 0, slots := 0, locals := 89 } : Room) s m ([.ref h, .int (nI w)] : List Value).toArray be me c H locs 0 0 Q (F0 m 4 ls []) := by
    intro n
    induction n with
    | zero =>
      intro i hi H locs ls hP hD hS hl
      obtain rfl : i = 12 := by omega
      refine lv_iload_n hx hb dX3_allowedFor_4 rfl (lv_at hl 3 rfl) ?_
      refine lv_bipush (v := nI 12) hx hb dX3_allowedFor_5 (by decide) ?_
      refine lv_icmp_ge (tgt := 31) hx hb dX3_allowedFor_7 (by decide) (fun c_1 => ?_) (fun c_1 => ?_)
      · skip
        refine lv_iload_n hx hb dX3_allowedFor_31 rfl (lv_at hl 2 rfl) ?_
        exact hret _ _ _ _ hP hS dX3_allowedFor_32
      · skip
        exact absurd (nI_le (by omega) (by omega)) c_1
    | succ n ih =>
      intro i hi H locs ls hP hD hS hl
      have hlt : i < 12 := by omega
      refine lv_iload_n hx hb dX3_allowedFor_4 rfl (lv_at hl 3 rfl) ?_
      refine lv_bipush (v := nI 12) hx hb dX3_allowedFor_5 (by decide) ?_
      refine lv_icmp_ge (tgt := 31) hx hb dX3_allowedFor_7 (by decide) (fun c_2 => ?_) (fun c_2 => ?_)
      · skip
        exact absurd c_2 (nI_ge (by omega) (by omega))
      · skip
        refine lv_aload_n hx hb dX3_allowedFor_10 rfl (lv_at hl 0 rfl) ?_
        refine lv_iload_n hx hb dX3_allowedFor_11 rfl (lv_at hl 1 rfl) ?_
        refine lv_iload_n hx hb dX3_allowedFor_12 rfl (lv_at hl 3 rfl) ?_
        refine goIw (va_runV (As := [.int (nI w), .int (nI i)]) (rest := []) ⟨hx, hb, hml, hown, hts⟩ (CtI.use (c_X3_mayCross l G ca h a S w i (by omega) (by omega)) H.size) (cwV 2 hts gX3_allowedFor_X3_mayCross rfl rfl rfl (by decide +kernel) ⟨Nat.le_of_ble_eq_true rfl, Nat.le_of_ble_eq_true rfl⟩) (pcW_V hev hP hD (q0 := 0) rfl rfl rfl) rfl rfl hl.1 rfl (lv_room (Nat.le_of_ble_eq_true rfl)) dX3_allowedFor_13 ⟨Nat.zero_le _, Nat.zero_le _⟩) hD hS hA stF (fun H locs hP hD hS => ?_)
        refine lv_if_eq (tgt := 25) hx hb dX3_allowedFor_16 (by decide) (fun c_3 => ?_) (fun c_3 => ?_)
        · skip
          refine lv_iinc (v := nI (i + 1)) (lv' := [(3, .int (nI (i + 1))), (0, .ref h), (1, .int (nI w)), (2, .int (mkD (mayC S w) i))]) hx hb dX3_allowedFor_25 hl (k := 3) rfl (nI_1 _) (by decide) rfl (fun ls hl => ?_)
          refine lv_goto (tgt := 4) hx hb dX3_allowedFor_28 (by decide) ?_
          exact ih (i + 1) (by omega) _ _ _ hP (D_of hD stF) hS (by rw [show (mkD (mayC S w) (i + 1)) = (mkD (mayC S w) i) from by rw [mkD_s, if_pos c_3]]; exact lv_sub hl [1, 2, 3, 0] rfl)
        · skip
          refine lv_iload_n hx hb dX3_allowedFor_19 rfl (lv_at hl 2 rfl) ?_
          refine lv_iconst (v := 1) hx hb dX3_allowedFor_20 (by decide) ?_
          refine lv_iload_n hx hb dX3_allowedFor_21 rfl (lv_at hl 3 rfl) ?_
          refine lv_ishl hx hb dX3_allowedFor_22 ?_
          refine lv_ior hx hb dX3_allowedFor_23 ?_
          refine lv_istore_n (lv' := [(2, .int ((mkD (mayC S w) i) ||| (1 <<< ((nI i) &&& 31)))), (0, .ref h), (1, .int (nI w)), (3, .int (nI i))]) hx hb dX3_allowedFor_24 rfl hl (by decide) rfl (fun ls hl => ?_)
          refine lv_iinc (v := nI (i + 1)) (lv' := [(3, .int (nI (i + 1))), (2, .int ((mkD (mayC S w) i) ||| (1 <<< ((nI i) &&& 31)))), (0, .ref h), (1, .int (nI w))]) hx hb dX3_allowedFor_25 hl (k := 3) rfl (nI_1 _) (by decide) rfl (fun ls hl => ?_)
          refine lv_goto (tgt := 4) hx hb dX3_allowedFor_28 (by decide) ?_
          exact ih (i + 1) (by omega) _ _ _ hP (D_of hD stF) hS (by rw [show (mkD (mayC S w) (i + 1)) = ((mkD (mayC S w) i) ||| (1 <<< ((nI i) &&& 31))) from by rw [mkD_s, if_neg c_3]]; exact lv_sub hl [2, 3, 1, 0] rfl)
  exact loop_4 12 0 (by omega) _ _ _ hP (D_of hD stF) hS (lv_sub hl [2, 3, 1, 0] rfl)
def allZ (g : Nat → Int32) : Nat → Nat → Int32 | 0, _ => 1 | n + 1, i => if g i = 0 then allZ g n (i + 1) else 0
theorem allZ_s (g : Nat → Int32) (n i : Nat) : allZ g (n + 1) i = if g i = 0 then allZ g n (i + 1) else 0 := rfl
theorem allZ_nar (g : Nat → Int32) (n : Nat) : ∀ i, narrow .boolean (.int (allZ g n i)) = .int (allZ g n i) := by
  induction n with
  | zero => intro i; show narrow .boolean (.int 1) = .int 1; rfl
  | succ n ih =>
    intro i
    rw [allZ_s]
    split
    · exact ih (i + 1)
    · rfl
set_option maxHeartbeats 4000000 in
set_option maxRecDepth 100000 in
theorem c_X3_allowsAllWith (l : Launch) (G : va_G) (ca : Nat → ClassId) (h : Nat) (a : Nat → Nat) (S : SS) (w : Nat) (x : Int32) (hw : w < 6) : CtI l yX3_allowsAllWith wsX3_allowsAllWith ({ frames := 3, cells := 0, slots := 0, locals := 67 }) [.ref h, .int (nI w), .int x] G ca (stT ca h a S) (stT ca h a S) (allZ (fun p => rsnA S w p x) 12 0) := by
  refine CtI.ofW (cc := cX3_allowsAllWith) (maxL := 4) (rt := .boolean) (by decide) rfl (Nat.le_of_ble_eq_true rfl) (allZ_nar _ _ _) ?_
  intro pr en s m be me c A ls Q H hx hb hml hts hown hev hP hD hA hS hl hret
  have hown : s.vm.findClass RX3 = some m.cls := hown
  have hl : lv_has ls 4 [(0, .ref h), (1, .int (nI w)), (2, .int x)] := hl
  have in_wsX30 : ∀ w ∈ wsX30, w ∈ wsX3_allowsAllWith := fun _ h => List.mem_cons_of_mem _ (List.mem_append_right _ h)
  refine lv_iconst (v := nI 0) hx hb dX3_allowsAllWith_0 (by decide) ?_
  refine lv_istore_n (lv' := [(3, .int (nI 0)), (0, .ref h), (1, .int (nI w)), (2, .int x)]) hx hb dX3_allowsAllWith_1 rfl hl (by decide) rfl (fun ls hl => ?_)
  have loop_2 : ∀ (n i : Nat), i + n = 12 → allZ (fun p => rsnA S w p x) n i = allZ (fun p => rsnA S w p x) 12 0 → ∀ (H : Heap) (locs : List Loc) (ls : Array Slot), va_P G vwCl (stT ca h a S) H → va_D A (stT ca h a S) → va_S A s.heap H locs → lv_has ls 4 [(0, .ref h), (1, .int (nI w)), (2, .int x), (3, .int (nI i))] → W pr l en ({ frames := 3, cells := 0, slots := 0, locals := 67 } : Room) s m ([.ref h, .int (nI w), .int x] : List Value).toArray be me c H locs 0 0 Q (F0 m 2 ls []) := by
    intro n
    induction n with
    | zero =>
      intro i hi hr H locs ls hP hD hS hl
      obtain rfl : i = 12 := by omega
      refine lv_iload_n hx hb dX3_allowsAllWith_2 rfl (lv_at hl 3 rfl) ?_
      refine lv_bipush (v := nI 12) hx hb dX3_allowsAllWith_3 (by decide) ?_
      refine lv_icmp_ge (tgt := 26) hx hb dX3_allowsAllWith_5 (by decide) (fun c_1 => ?_) (fun c_1 => ?_)
      · skip
        refine lv_iconst (v := 1) hx hb dX3_allowsAllWith_26 (by decide) ?_
        refine lv_eqi (y := allZ (fun p => rsnA S w p x) 12 0) (by rw [← hr]; rfl) ?_
        exact hret _ _ _ _ hP hS dX3_allowsAllWith_27
      · skip
        exact absurd (nI_le (by omega) (by omega)) c_1
    | succ n ih =>
      intro i hi hr H locs ls hP hD hS hl
      have hlt : i < 12 := by omega
      refine lv_iload_n hx hb dX3_allowsAllWith_2 rfl (lv_at hl 3 rfl) ?_
      refine lv_bipush (v := nI 12) hx hb dX3_allowsAllWith_3 (by decide) ?_
      refine lv_icmp_ge (tgt := 26) hx hb dX3_allowsAllWith_5 (by decide) (fun c_2 => ?_) (fun c_2 => ?_)
      · skip
        exact absurd c_2 (nI_ge (by omega) (by omega))
      · skip
        refine lv_aload_n hx hb dX3_allowsAllWith_8 rfl (lv_at hl 0 rfl) ?_
        refine lv_iload_n hx hb dX3_allowsAllWith_9 rfl (lv_at hl 1 rfl) ?_
        refine lv_iload_n hx hb dX3_allowsAllWith_10 rfl (lv_at hl 3 rfl) ?_
        refine lv_iload_n hx hb dX3_allowsAllWith_11 rfl (lv_at hl 2 rfl) ?_
        refine goIw (va_runV (As := [.int (nI w), .int (nI i), .int x]) (rest := []) ⟨hx, hb, hml, hown, hts⟩ (CtI.use (c_X3_reasonAgainst l G ca h a S w i x (by omega) (by omega)) H.size) (cwV 3 hts gX3_allowsAllWith_X3_reasonAgainst rfl rfl rfl (by decide +kernel) ⟨Nat.le_of_ble_eq_true rfl, Nat.le_of_ble_eq_true rfl⟩) (pcW_V hev hP hD (q0 := 0) rfl rfl rfl) rfl rfl hl.1 rfl (lv_room (Nat.le_of_ble_eq_true rfl)) dX3_allowsAllWith_12 ⟨Nat.zero_le _, Nat.zero_le _⟩) hD hS hA stF (fun H locs hP hD hS => ?_)
        refine lv_if_eq (tgt := 20) hx hb dX3_allowsAllWith_15 (by decide) (fun c_3 => ?_) (fun c_3 => ?_)
        · skip
          refine lv_iinc (v := nI (i + 1)) (lv' := [(3, .int (nI (i + 1))), (0, .ref h), (1, .int (nI w)), (2, .int x)]) hx hb dX3_allowsAllWith_20 hl (k := 3) rfl (nI_1 _) (by decide) rfl (fun ls hl => ?_)
          refine lv_goto (tgt := 2) hx hb dX3_allowsAllWith_23 (by decide) ?_
          exact ih (i + 1) (by omega) (by rw [← hr, allZ_s, if_pos c_3]) _ _ _ hP (D_of hD stF) hS (lv_sub hl [1, 2, 3, 0] rfl)
        · skip
          refine lv_iconst (v := 0) hx hb dX3_allowsAllWith_18 (by decide) ?_
          refine lv_eqi (y := allZ (fun p => rsnA S w p x) 12 0) (by rw [← hr, allZ_s, if_neg c_3]) ?_
          exact hret _ _ _ _ hP hS dX3_allowsAllWith_19
  exact loop_2 12 0 (by omega) (by rfl) _ _ _ hP (D_of hD stF) hS (lv_sub hl [1, 2, 3, 0] rfl)
set_option maxHeartbeats 4000000 in
set_option maxRecDepth 100000 in
theorem c_X3_dutyAt (l : Launch) (G : va_G) (ca : Nat → ClassId) (h : Nat) (a : Nat → Nat) (S : SS) (p : Nat) (hp : p < 12) : CtI l yX3_dutyAt wsX3_dutyAt ({ frames := 2, cells := 0, slots := 0, locals := 42 }) [.ref h, .int (nI p)] G ca (stT ca h a S) (stT ca h a S) (dutyA S p) := by
  refine CtI.ofW (cc := cX3_dutyAt) (maxL := 2) (rt := .int) (by decide) rfl (Nat.le_of_ble_eq_true rfl) rfl ?_
  intro pr en s m be me c A ls Q H hx hb hml hts hown hev hP hD hA hS hl hret
  have hown : s.vm.findClass RX3 = some m.cls := hown
  have hl : lv_has ls 2 [(0, .ref h), (1, .int (nI p))] := hl
  have in_wsX30 : ∀ w ∈ wsX30, w ∈ wsX3_dutyAt := fun _ h => List.mem_cons_of_mem _ (List.mem_append_right _ h)
  refine lv_aload_n hx hb dX3_dutyAt_0 rfl (lv_at hl 0 rfl) ?_
  refine lv_iload_n hx hb dX3_dutyAt_1 rfl (lv_at hl 1 rfl) ?_
  refine goIw (va_runV (As := [.int (nI p)]) (rest := []) ⟨hx, hb, hml, hown, hts⟩ (CtI.use (c_X3_isFrozen l G ca h a S p) H.size) (cwV 1 hts gX3_dutyAt_X3_isFrozen rfl rfl rfl (by decide +kernel) ⟨Nat.le_of_ble_eq_true rfl, Nat.le_of_ble_eq_true rfl⟩) (pcW_V hev hP hD (q0 := 0) rfl rfl rfl) rfl rfl hl.1 rfl (lv_room (Nat.le_of_ble_eq_true rfl)) dX3_dutyAt_2 ⟨Nat.zero_le _, Nat.zero_le _⟩) hD hS hA stF (fun H locs hP hD hS => ?_)
  refine lv_if_eq (tgt := 12) hx hb dX3_dutyAt_5 (by decide) (fun c_1 => ?_) (fun c_1 => ?_)
  · skip
    refine lv_aload_n hx hb dX3_dutyAt_12 rfl (lv_at hl 0 rfl) ?_
    refine va_get (D := G) (ci := 3) (v := .ref (a 0)) (C := RX3) (T := TX3) (N := 15) hx hb hts in_wsX30 hown hev.1 hP 0 rfl rfl 0 (by decide) (hts (.fieldLink RX3 9 "PuddleMinistries$Street" "settings" "[I") (List.mem_of_getElem? (i := 1) rfl)) (fun _ h9 => h9) rfl dX3_dutyAt_13 ?_
    refine lv_iconst (v := nI 0) hx hb dX3_dutyAt_16 (by decide) ?_
    refine b_iald hx hb hev.1 hP 1 rfl rfl (j := 0) (by omega) (by decide) dX3_dutyAt_17 ?_
    refine lv_aload_n hx hb dX3_dutyAt_18 rfl (lv_at hl 0 rfl) ?_
    refine lv_iload_n hx hb dX3_dutyAt_19 rfl (lv_at hl 1 rfl) ?_
    refine goIw (va_runV (As := [.int (nI p)]) (rest := [.int ((s_se S) 0)]) ⟨hx, hb, hml, hown, hts⟩ (CtI.use (c_X3_depth l G ca h a S p (by omega)) H.size) (cwV 1 hts gX3_dutyAt_X3_depth rfl rfl rfl (by decide +kernel) ⟨Nat.le_of_ble_eq_true rfl, Nat.le_of_ble_eq_true rfl⟩) (pcW_V hev hP hD (q0 := 0) rfl rfl rfl) rfl rfl hl.1 rfl (lv_room (Nat.le_of_ble_eq_true rfl)) dX3_dutyAt_20 ⟨Nat.zero_le _, Nat.zero_le _⟩) hD hS hA stF (fun H locs hP hD hS => ?_)
    refine lv_eqi (y := (s_wa S) p / 5) rfl ?_
    refine lv_imul hx hb dX3_dutyAt_23 ?_
    refine lv_eqi (y := dutyA S p) (by rw [dutyA, if_pos c_1]) ?_
    exact hret _ _ _ _ hP hS dX3_dutyAt_24
  · skip
    refine lv_iconst (v := 0) hx hb dX3_dutyAt_8 (by decide) ?_
    refine lv_goto (tgt := 24) hx hb dX3_dutyAt_9 (by decide) ?_
    refine lv_eqi (y := dutyA S p) (by rw [dutyA, if_neg c_1]) ?_
    exact hret _ _ _ _ hP hS dX3_dutyAt_24
def dnWa (wa : Nat → Int32) (p : Nat) (x : Int32) : Nat → Int32 := if 0 < wa p - x then upd wa p x else wa
def dnDn (wa : Nat → Int32) (dn : Int32) (p : Nat) (x : Int32) : Int32 := if 0 < wa p - x then dn + (wa p - x) else dn
set_option maxHeartbeats 4000000 in
set_option maxRecDepth 100000 in
theorem c_X3_drainDownTo (l : Launch) (G : va_G) (ca : Nat → ClassId) (h : Nat) (a : Nat → Nat) (S : SS) (p : Nat) (x : Int32) (hp : p < 12) : CtV l yX3_drainDownTo wsX3_drainDownTo ({ frames := 0, cells := 0, slots := 0, locals := 0 }) [.ref h, .int (nI p), .int x] G ca (stT ca h a S) (stT ca h a (s_se S, s_br S, dnWa (s_wa S) p x, s_cr S, s_sh S, s_ow S, s_pa S, s_cb S, s_pd S, s_fz S, s_dk S, s_dy S, s_fe S, s_dr S, dnDn (s_wa S) (s_dn S) p x)) := by
  refine CtV.ofW (cc := cX3_drainDownTo) (maxL := 4) (by decide) rfl (Nat.le_of_ble_eq_true rfl) ?_
  intro pr en s m be me c A ls Q H hx hb hml hts hown hev hP hD hA hS hl hret
  have hown : s.vm.findClass RX3 = some m.cls := hown
  have hl : lv_has ls 4 [(0, .ref h), (1, .int (nI p)), (2, .int x)] := hl
  have in_wsX30 : ∀ w ∈ wsX30, w ∈ wsX3_drainDownTo := fun _ h => List.mem_cons_of_mem _ (List.mem_append_right _ h)
  refine lv_aload_n hx hb dX3_drainDownTo_0 rfl (lv_at hl 0 rfl) ?_
  refine va_get (D := G) (ci := 3) (v := .ref (a 2)) (C := RX3) (T := TX3) (N := 15) hx hb hts in_wsX30 hown hev.1 hP 0 rfl rfl 2 (by decide) (hts (.fieldLink RX3 18 "PuddleMinistries$Street" "waters" "[I") (List.mem_of_getElem? (i := 1) rfl)) (fun _ h9 => h9) rfl dX3_drainDownTo_1 ?_
  refine lv_iload_n hx hb dX3_drainDownTo_4 rfl (lv_at hl 1 rfl) ?_
  refine b_iald hx hb hev.1 hP 3 rfl rfl (j := p) (by omega) (by decide) dX3_drainDownTo_5 ?_
  refine lv_iload_n hx hb dX3_drainDownTo_6 rfl (lv_at hl 2 rfl) ?_
  refine lv_isub hx hb dX3_drainDownTo_7 ?_
  refine lv_istore_n (lv' := [(3, .int (((s_wa S) p) - x)), (0, .ref h), (1, .int (nI p)), (2, .int x)]) hx hb dX3_drainDownTo_8 rfl hl (by decide) rfl (fun ls hl => ?_)
  refine lv_iload_n hx hb dX3_drainDownTo_9 rfl (lv_at hl 0 rfl) ?_
  refine lv_if_gt (tgt := 14) hx hb dX3_drainDownTo_10 (by decide) (fun c_1 => ?_) (fun c_1 => ?_)
  · skip
    refine lv_aload_n hx hb dX3_drainDownTo_14 rfl (lv_at hl 1 rfl) ?_
    refine va_get (D := G) (ci := 3) (v := .ref (a 2)) (C := RX3) (T := TX3) (N := 15) hx hb hts in_wsX30 hown hev.1 hP 0 rfl rfl 2 (by decide) (hts (.fieldLink RX3 18 "PuddleMinistries$Street" "waters" "[I") (List.mem_of_getElem? (i := 1) rfl)) (fun _ h9 => h9) rfl dX3_drainDownTo_15 ?_
    refine lv_iload_n hx hb dX3_drainDownTo_18 rfl (lv_at hl 2 rfl) ?_
    refine lv_iload_n hx hb dX3_drainDownTo_19 rfl (lv_at hl 3 rfl) ?_
    refine b_iast hx hb hev.1 hP hD hS 3 rfl rfl (j := p) (by omega) (by decide) dX3_drainDownTo_20 (fun H locs hP hD hS => ?_)
    have hP : va_P G vwCl (stT ca h a (s_se S, s_br S, upd (s_wa S) p x, s_cr S, s_sh S, s_ow S, s_pa S, s_cb S, s_pd S, s_fz S, s_dk S, s_dy S, s_fe S, s_dr S, s_dn S)) H := hP
    have hD : va_D A (stT ca h a (s_se S, s_br S, upd (s_wa S) p x, s_cr S, s_sh S, s_ow S, s_pa S, s_cb S, s_pd S, s_fz S, s_dk S, s_dy S, s_fe S, s_dr S, s_dn S)) := hD
    refine lv_aload_n hx hb dX3_drainDownTo_21 rfl (lv_at hl 1 rfl) ?_
    refine lv_dup hx hb dX3_drainDownTo_22 rfl ?_
    refine va_get (D := G) (ci := 3) (v := .int (s_dn S)) (C := RX3) (T := TX3) (N := 15) hx hb hts in_wsX30 hown hev.1 hP 0 rfl rfl 14 (by decide) (hts (.fieldLink RX3 62 "PuddleMinistries$Street" "drained" "I") (List.mem_of_getElem? (i := 2) rfl)) (fun _ h9 => h9) rfl dX3_drainDownTo_23 ?_
    refine lv_iload_n hx hb dX3_drainDownTo_26 rfl (lv_at hl 0 rfl) ?_
    refine lv_iadd hx hb dX3_drainDownTo_27 ?_
    refine va_put (D := G) (ci := 3) (v := .int ((s_dn S) + (((s_wa S) p) - x))) (ty := .int) (C := RX3) (T := TX3) (N := 15) hx hb hts in_wsX30 tyX3 tyX3_ok nmX3 hown hev.1 hP hD hS 0 rfl rfl 14 (by decide) (hts (.fieldLink RX3 62 "PuddleMinistries$Street" "drained" "I") (List.mem_of_getElem? (i := 2) rfl)) (fun _ h9 => h9) rfl (by decide +kernel) rfl rfl (Nat.le_of_ble_eq_true rfl) dX3_drainDownTo_28 (fun H locs hP hD hS => ?_)
    have hP : va_P G vwCl (stT ca h a (s_se S, s_br S, upd (s_wa S) p x, s_cr S, s_sh S, s_ow S, s_pa S, s_cb S, s_pd S, s_fz S, s_dk S, s_dy S, s_fe S, s_dr S, (s_dn S) + (((s_wa S) p) - x))) H := hP
    have hD : va_D A (stT ca h a (s_se S, s_br S, upd (s_wa S) p x, s_cr S, s_sh S, s_ow S, s_pa S, s_cb S, s_pd S, s_fz S, s_dk S, s_dy S, s_fe S, s_dr S, (s_dn S) + (((s_wa S) p) - x))) := hD
    have e_2 : (dnWa (s_wa S) p x) = (upd (s_wa S) p x) := by first | rw [dnWa, if_pos c_1] | rw [dnDn, if_pos c_1]
    have e_3 : (dnDn (s_wa S) (s_dn S) p x) = ((s_dn S) + (((s_wa S) p) - x)) := by first | rw [dnWa, if_pos c_1] | rw [dnDn, if_pos c_1]
    exact hret _ _ _ _ (by rw [e_2]; rw [e_3]; exact hP) hS dX3_drainDownTo_31
  · skip
    have e_4 : (dnWa (s_wa S) p x) = (s_wa S) := by first | rw [dnWa, if_neg c_1] | rw [dnDn, if_neg c_1]
    have e_5 : (dnDn (s_wa S) (s_dn S) p x) = (s_dn S) := by first | rw [dnWa, if_neg c_1] | rw [dnDn, if_neg c_1]
    exact hret _ _ _ _ (by rw [e_4]; rw [e_5]; exact hP) hS dX3_drainDownTo_13
set_option maxHeartbeats 4000000 in
set_option maxRecDepth 100000 in
theorem c_X3_cross (l : Launch) (G : va_G) (ca : Nat → ClassId) (h : Nat) (a : Nat → Nat) (S : SS) (w : Nat) (p : Nat) (hw : w < 6) (hp : p < 12) : CtV l yX3_cross wsX3_cross ({ frames := 3, cells := 0, slots := 0, locals := 63 }) [.ref h, .int (nI w), .int (nI p)] G ca (stT ca h a S) (stT ca h a (s_se S, s_br S, s_wa S, upd (s_cr S) p (s_cr S p + 1), s_sh S, upd (s_ow S) w (s_ow S w + dutyA S p), s_pa S, upd (s_cb S) w (s_cb S w + 1), s_pd S, s_fz S, s_dk S, s_dy S, s_fe S, s_dr S, s_dn S)) := by
  refine CtV.ofW (cc := cX3_cross) (maxL := 3) (by decide) rfl (Nat.le_of_ble_eq_true rfl) ?_
  intro pr en s m be me c A ls Q H hx hb hml hts hown hev hP hD hA hS hl hret
  have hown : s.vm.findClass RX3 = some m.cls := hown
  have hl : lv_has ls 3 [(0, .ref h), (1, .int (nI w)), (2, .int (nI p))] := hl
  have in_wsX30 : ∀ w ∈ wsX30, w ∈ wsX3_cross := fun _ h => List.mem_cons_of_mem _ (List.mem_append_right _ h)
  refine lv_aload_n hx hb dX3_cross_0 rfl (lv_at hl 0 rfl) ?_
  refine va_get (D := G) (ci := 3) (v := .ref (a 5)) (C := RX3) (T := TX3) (N := 15) hx hb hts in_wsX30 hown hev.1 hP 0 rfl rfl 5 (by decide) (hts (.fieldLink RX3 27 "PuddleMinistries$Street" "owedBy" "[I") (List.mem_of_getElem? (i := 1) rfl)) (fun _ h9 => h9) rfl dX3_cross_1 ?_
  refine lv_iload_n hx hb dX3_cross_4 rfl (lv_at hl 1 rfl) ?_
  refine lv_dup2_11 hx hb dX3_cross_5 rfl rfl ?_
  refine b_iald hx hb hev.1 hP 6 rfl rfl (j := w) (by omega) (by decide) dX3_cross_6 ?_
  refine lv_aload_n hx hb dX3_cross_7 rfl (lv_at hl 0 rfl) ?_
  refine lv_iload_n hx hb dX3_cross_8 rfl (lv_at hl 2 rfl) ?_
  refine goIw (va_runV (As := [.int (nI p)]) (rest := [.int ((s_ow S) w), .int (nI w), .ref (a 5)]) ⟨hx, hb, hml, hown, hts⟩ (CtI.use (c_X3_dutyAt l G ca h a S p (by omega)) H.size) (cwV 1 hts gX3_cross_X3_dutyAt rfl rfl rfl (by decide +kernel) ⟨Nat.le_of_ble_eq_true rfl, Nat.le_of_ble_eq_true rfl⟩) (pcW_V hev hP hD (q0 := 0) rfl rfl rfl) rfl rfl hl.1 rfl (lv_room (Nat.le_of_ble_eq_true rfl)) dX3_cross_9 ⟨Nat.zero_le _, Nat.zero_le _⟩) hD hS hA stF (fun H locs hP hD hS => ?_)
  refine lv_iadd hx hb dX3_cross_12 ?_
  refine b_iast hx hb hev.1 hP hD hS 6 rfl rfl (j := w) (by omega) (by decide) dX3_cross_13 (fun H locs hP hD hS => ?_)
  have hP : va_P G vwCl (stT ca h a (s_se S, s_br S, s_wa S, s_cr S, s_sh S, upd (s_ow S) w (((s_ow S) w) + (dutyA S p)), s_pa S, s_cb S, s_pd S, s_fz S, s_dk S, s_dy S, s_fe S, s_dr S, s_dn S)) H := hP
  have hD : va_D A (stT ca h a (s_se S, s_br S, s_wa S, s_cr S, s_sh S, upd (s_ow S) w (((s_ow S) w) + (dutyA S p)), s_pa S, s_cb S, s_pd S, s_fz S, s_dk S, s_dy S, s_fe S, s_dr S, s_dn S)) := hD
  refine lv_aload_n hx hb dX3_cross_14 rfl (lv_at hl 0 rfl) ?_
  refine va_get (D := G) (ci := 3) (v := .ref (a 7)) (C := RX3) (T := TX3) (N := 15) hx hb hts in_wsX30 hown hev.1 hP 0 rfl rfl 7 (by decide) (hts (.fieldLink RX3 33 "PuddleMinistries$Street" "crossedBy" "[I") (List.mem_of_getElem? (i := 2) rfl)) (fun _ h9 => h9) rfl dX3_cross_15 ?_
  refine lv_iload_n hx hb dX3_cross_18 rfl (lv_at hl 1 rfl) ?_
  refine lv_dup2_11 hx hb dX3_cross_19 rfl rfl ?_
  refine b_iald hx hb hev.1 hP 8 rfl rfl (j := w) (by omega) (by decide) dX3_cross_20 ?_
  refine lv_iconst (v := 1) hx hb dX3_cross_21 (by decide) ?_
  refine lv_iadd hx hb dX3_cross_22 ?_
  refine b_iast hx hb hev.1 hP hD hS 8 rfl rfl (j := w) (by omega) (by decide) dX3_cross_23 (fun H locs hP hD hS => ?_)
  have hP : va_P G vwCl (stT ca h a (s_se S, s_br S, s_wa S, s_cr S, s_sh S, upd (s_ow S) w (((s_ow S) w) + (dutyA S p)), s_pa S, upd (s_cb S) w (((s_cb S) w) + 1), s_pd S, s_fz S, s_dk S, s_dy S, s_fe S, s_dr S, s_dn S)) H := hP
  have hD : va_D A (stT ca h a (s_se S, s_br S, s_wa S, s_cr S, s_sh S, upd (s_ow S) w (((s_ow S) w) + (dutyA S p)), s_pa S, upd (s_cb S) w (((s_cb S) w) + 1), s_pd S, s_fz S, s_dk S, s_dy S, s_fe S, s_dr S, s_dn S)) := hD
  refine lv_aload_n hx hb dX3_cross_24 rfl (lv_at hl 0 rfl) ?_
  refine va_get (D := G) (ci := 3) (v := .ref (a 3)) (C := RX3) (T := TX3) (N := 15) hx hb hts in_wsX30 hown hev.1 hP 0 rfl rfl 3 (by decide) (hts (.fieldLink RX3 21 "PuddleMinistries$Street" "crossingsOf" "[I") (List.mem_of_getElem? (i := 3) rfl)) (fun _ h9 => h9) rfl dX3_cross_25 ?_
  refine lv_iload_n hx hb dX3_cross_28 rfl (lv_at hl 2 rfl) ?_
  refine lv_dup2_11 hx hb dX3_cross_29 rfl rfl ?_
  refine b_iald hx hb hev.1 hP 4 rfl rfl (j := p) (by omega) (by decide) dX3_cross_30 ?_
  refine lv_iconst (v := 1) hx hb dX3_cross_31 (by decide) ?_
  refine lv_iadd hx hb dX3_cross_32 ?_
  refine b_iast hx hb hev.1 hP hD hS 4 rfl rfl (j := p) (by omega) (by decide) dX3_cross_33 (fun H locs hP hD hS => ?_)
  have hP : va_P G vwCl (stT ca h a (s_se S, s_br S, s_wa S, upd (s_cr S) p (((s_cr S) p) + 1), s_sh S, upd (s_ow S) w (((s_ow S) w) + (dutyA S p)), s_pa S, upd (s_cb S) w (((s_cb S) w) + 1), s_pd S, s_fz S, s_dk S, s_dy S, s_fe S, s_dr S, s_dn S)) H := hP
  have hD : va_D A (stT ca h a (s_se S, s_br S, s_wa S, upd (s_cr S) p (((s_cr S) p) + 1), s_sh S, upd (s_ow S) w (((s_ow S) w) + (dutyA S p)), s_pa S, upd (s_cb S) w (((s_cb S) w) + 1), s_pd S, s_fz S, s_dk S, s_dy S, s_fe S, s_dr S, s_dn S)) := hD
  exact hret _ _ _ _ hP hS dX3_cross_34
