/-! class Street and the static helpers: leaves -/
def bt1 (b : Int32) (p : Nat) : Int32 := if ((b >>> (nI p &&& 31)) &&& 1) = 1 then 1 else 0
theorem bt1_nar (b : Int32) (p : Nat) : narrow .boolean (.int (bt1 b p)) = .int (bt1 b p) := by unfold bt1; split <;> rfl
set_option maxHeartbeats 4000000 in
set_option maxRecDepth 100000 in
theorem c_X4_isIn (l : Launch) (G : va_G) (ca : Nat → ClassId) (b : Int32) (p : Nat) : CtI l yX4_isIn wsX4_isIn ({ frames := 0, cells := 0, slots := 0, locals := 0 }) [.int b, .int (nI p)] G ca ([]) ([]) (bt1 b p) := by
  refine CtI.ofW (cc := cX4_isIn) (maxL := 2) (rt := .boolean) (by decide) rfl (Nat.le_of_ble_eq_true rfl) (bt1_nar b p) ?_
  intro pr en s m be me c A ls Q H hx hb hml hts hown hev hP hD hA hS hl hret
  have hown : s.vm.findClass RX4 = some m.cls := hown
  have hl : lv_has ls 2 [(0, .int b), (1, .int (nI p))] := hl
  refine lv_iload_n hx hb dX4_isIn_0 rfl (lv_at hl 0 rfl) ?_
  refine lv_iload_n hx hb dX4_isIn_1 rfl (lv_at hl 1 rfl) ?_
  refine lv_ishr hx hb dX4_isIn_2 ?_
  refine lv_iconst (v := 1) hx hb dX4_isIn_3 (by decide) ?_
  refine lv_iand hx hb dX4_isIn_4 ?_
  refine lv_iconst (v := 1) hx hb dX4_isIn_5 (by decide) ?_
  refine lv_icmp_ne (tgt := 13) hx hb dX4_isIn_6 (by decide) (fun c_1 => ?_) (fun c_1 => ?_)
  · skip
    refine lv_iconst (v := 0) hx hb dX4_isIn_13 (by decide) ?_
    refine lv_eqi (y := bt1 b p) (by first | exact (if_pos c_1).symm | exact (if_neg c_1).symm) ?_
    exact hret _ _ _ _ hP hS dX4_isIn_14
  · skip
    refine lv_iconst (v := 1) hx hb dX4_isIn_9 (by decide) ?_
    refine lv_goto (tgt := 14) hx hb dX4_isIn_10 (by decide) ?_
    refine lv_eqi (y := bt1 b p) (by first | exact (if_pos c_1).symm | exact (if_neg c_1).symm) ?_
    exact hret _ _ _ _ hP hS dX4_isIn_14
set_option maxHeartbeats 4000000 in
set_option maxRecDepth 100000 in
theorem c_X4_placeOf (l : Launch) (G : va_G) (ca : Nat → ClassId) (w : Nat) (p : Nat) : CtI l yX4_placeOf wsX4_placeOf ({ frames := 0, cells := 0, slots := 0, locals := 0 }) [.int (nI w), .int (nI p)] G ca ([]) ([]) (nI (w * 12 + p)) := by
  refine CtI.ofW (cc := cX4_placeOf) (maxL := 2) (rt := .int) (by decide) rfl (Nat.le_of_ble_eq_true rfl) rfl ?_
  intro pr en s m be me c A ls Q H hx hb hml hts hown hev hP hD hA hS hl hret
  have hown : s.vm.findClass RX4 = some m.cls := hown
  have hl : lv_has ls 2 [(0, .int (nI w)), (1, .int (nI p))] := hl
  refine lv_iload_n hx hb dX4_placeOf_0 rfl (lv_at hl 0 rfl) ?_
  refine lv_bipush (v := nI 12) hx hb dX4_placeOf_1 (by decide) ?_
  refine lv_imul hx hb dX4_placeOf_3 ?_
  refine lv_eqi (pk_mul _ _) ?_
  refine lv_iload_n hx hb dX4_placeOf_4 rfl (lv_at hl 1 rfl) ?_
  refine lv_iadd hx hb dX4_placeOf_5 ?_
  refine lv_eqi (nI_add _ _) ?_
  refine lv_eqi (y := nI (w * 12 + p)) rfl ?_
  exact hret _ _ _ _ hP hS dX4_placeOf_6
set_option maxHeartbeats 4000000 in
set_option maxRecDepth 100000 in
theorem c_X3_depth (l : Launch) (G : va_G) (ca : Nat → ClassId) (h : Nat) (a : Nat → Nat) (S : SS) (p : Nat) (hp : p < 12) : CtI l yX3_depth wsX3_depth ({ frames := 0, cells := 0, slots := 0, locals := 0 }) [.ref h, .int (nI p)] G ca (stT ca h a S) (stT ca h a S) (s_wa S p / 5) := by
  refine CtI.ofW (cc := cX3_depth) (maxL := 2) (rt := .int) (by decide) rfl (Nat.le_of_ble_eq_true rfl) rfl ?_
  intro pr en s m be me c A ls Q H hx hb hml hts hown hev hP hD hA hS hl hret
  have hown : s.vm.findClass RX3 = some m.cls := hown
  have hl : lv_has ls 2 [(0, .ref h), (1, .int (nI p))] := hl
  have in_wsX30 : ∀ w ∈ wsX30, w ∈ wsX3_depth := fun _ h => List.mem_cons_of_mem _ (List.mem_append_right _ h)
  refine lv_aload_n hx hb dX3_depth_0 rfl (lv_at hl 0 rfl) ?_
  refine va_get (D := G) (ci := 3) (v := .ref (a 2)) (C := RX3) (T := TX3) (N := 15) hx hb hts in_wsX30 hown hev.1 hP 0 rfl rfl 2 (by decide) (hts (.fieldLink RX3 18 "PuddleMinistries$Street" "waters" "[I") (List.mem_of_getElem? (i := 1) rfl)) (fun _ h9 => h9) rfl dX3_depth_1 ?_
  refine lv_iload_n hx hb dX3_depth_4 rfl (lv_at hl 1 rfl) ?_
  refine b_iald hx hb hev.1 hP 3 rfl rfl (j := p) (by omega) (by decide) dX3_depth_5 ?_
  refine lv_iconst (v := 5) hx hb dX3_depth_6 (by decide) ?_
  refine lv_idiv hx hb dX3_depth_7 (by decide) ?_
  refine lv_eqi (y := s_wa S p / 5) rfl ?_
  exact hret _ _ _ _ hP hS dX3_depth_8
set_option maxHeartbeats 4000000 in
set_option maxRecDepth 100000 in
theorem c_X3_isFrozen (l : Launch) (G : va_G) (ca : Nat → ClassId) (h : Nat) (a : Nat → Nat) (S : SS) (p : Nat) : CtI l yX3_isFrozen wsX3_isFrozen ({ frames := 1, cells := 0, slots := 0, locals := 21 }) [.ref h, .int (nI p)] G ca (stT ca h a S) (stT ca h a S) (bt1 (s_fz S) p) := by
  refine CtI.ofW (cc := cX3_isFrozen) (maxL := 2) (rt := .boolean) (by decide) rfl (Nat.le_of_ble_eq_true rfl) (bt1_nar _ _) ?_
  intro pr en s m be me c A ls Q H hx hb hml hts hown hev hP hD hA hS hl hret
  have hown : s.vm.findClass RX3 = some m.cls := hown
  have hl : lv_has ls 2 [(0, .ref h), (1, .int (nI p))] := hl
  have in_wsX30 : ∀ w ∈ wsX30, w ∈ wsX3_isFrozen := fun _ h => List.mem_cons_of_mem _ (List.mem_append_right _ h)
  refine lv_aload_n hx hb dX3_isFrozen_0 rfl (lv_at hl 0 rfl) ?_
  refine va_get (D := G) (ci := 3) (v := .int (s_fz S)) (C := RX3) (T := TX3) (N := 15) hx hb hts in_wsX30 hown hev.1 hP 0 rfl rfl 9 (by decide) (hts (.fieldLink RX3 46 "PuddleMinistries$Street" "frozenSet" "I") (List.mem_of_getElem? (i := 1) rfl)) (fun _ h9 => h9) rfl dX3_isFrozen_1 ?_
  refine lv_iload_n hx hb dX3_isFrozen_4 rfl (lv_at hl 1 rfl) ?_
  refine goI0 (va_runSN (As := [.int (s_fz S), .int (nI p)]) (rest := []) ⟨hx, hb, hml, hown, hts⟩ (CtI.use (c_X4_isIn l G ca (s_fz S) p) H.size) ⟨va_cnB 2 hts gX3_isFrozen_X4_isIn_n65 rfl rfl rfl hev.2.2.2.1 (hts (.initialized RX4) (List.mem_of_getElem? (i := 3) rfl)) (by decide +kernel) ⟨Nat.le_of_ble_eq_true rfl, Nat.le_of_ble_eq_true rfl⟩, hts (.static yX4_isIn) (List.mem_of_getElem? (i := 2) rfl), trivial⟩ (pcW_S hev P_nil (D_nil (A := A))) rfl rfl hl.1 rfl (lv_room (Nat.le_of_ble_eq_true rfl)) dX3_isFrozen_5 ⟨Nat.zero_le _, Nat.zero_le _⟩) hP hS hA (fun H locs hP hS => ?_)
  exact hret _ _ _ _ hP hS dX3_isFrozen_8
set_option maxHeartbeats 4000000 in
set_option maxRecDepth 100000 in
theorem c_X3_hasDucks (l : Launch) (G : va_G) (ca : Nat → ClassId) (h : Nat) (a : Nat → Nat) (S : SS) (p : Nat) : CtI l yX3_hasDucks wsX3_hasDucks ({ frames := 1, cells := 0, slots := 0, locals := 21 }) [.ref h, .int (nI p)] G ca (stT ca h a S) (stT ca h a S) (bt1 (s_dk S) p) := by
  refine CtI.ofW (cc := cX3_hasDucks) (maxL := 2) (rt := .boolean) (by decide) rfl (Nat.le_of_ble_eq_true rfl) (bt1_nar _ _) ?_
  intro pr en s m be me c A ls Q H hx hb hml hts hown hev hP hD hA hS hl hret
  have hown : s.vm.findClass RX3 = some m.cls := hown
  have hl : lv_has ls 2 [(0, .ref h), (1, .int (nI p))] := hl
  have in_wsX30 : ∀ w ∈ wsX30, w ∈ wsX3_hasDucks := fun _ h => List.mem_cons_of_mem _ (List.mem_append_right _ h)
  refine lv_aload_n hx hb dX3_hasDucks_0 rfl (lv_at hl 0 rfl) ?_
  refine va_get (D := G) (ci := 3) (v := .int (s_dk S)) (C := RX3) (T := TX3) (N := 15) hx hb hts in_wsX30 hown hev.1 hP 0 rfl rfl 10 (by decide) (hts (.fieldLink RX3 50 "PuddleMinistries$Street" "ducksSet" "I") (List.mem_of_getElem? (i := 1) rfl)) (fun _ h9 => h9) rfl dX3_hasDucks_1 ?_
  refine lv_iload_n hx hb dX3_hasDucks_4 rfl (lv_at hl 1 rfl) ?_
  refine goI0 (va_runSN (As := [.int (s_dk S), .int (nI p)]) (rest := []) ⟨hx, hb, hml, hown, hts⟩ (CtI.use (c_X4_isIn l G ca (s_dk S) p) H.size) ⟨va_cnB 2 hts gX3_hasDucks_X4_isIn_n65 rfl rfl rfl hev.2.2.2.1 (hts (.initialized RX4) (List.mem_of_getElem? (i := 3) rfl)) (by decide +kernel) ⟨Nat.le_of_ble_eq_true rfl, Nat.le_of_ble_eq_true rfl⟩, hts (.static yX4_isIn) (List.mem_of_getElem? (i := 2) rfl), trivial⟩ (pcW_S hev P_nil (D_nil (A := A))) rfl rfl hl.1 rfl (lv_room (Nat.le_of_ble_eq_true rfl)) dX3_hasDucks_5 ⟨Nat.zero_le _, Nat.zero_le _⟩) hP hS hA (fun H locs hP hS => ?_)
  exact hret _ _ _ _ hP hS dX3_hasDucks_8
def u_fz (S : SS) (x : Int32) : SS := (s_se S, s_br S, s_wa S, s_cr S, s_sh S, s_ow S, s_pa S, s_cb S, s_pd S, x, s_dk S, s_dy S, s_fe S, s_dr S, s_dn S)
def thaw1 (b : Int32) (p : Nat) : Int32 := b &&& ((1 <<< (nI p &&& 31)) ^^^ (-1))
set_option maxHeartbeats 4000000 in
set_option maxRecDepth 100000 in
theorem c_X3_thaw (l : Launch) (G : va_G) (ca : Nat → ClassId) (h : Nat) (a : Nat → Nat) (S : SS) (p : Nat) : CtV l yX3_thaw wsX3_thaw ({ frames := 0, cells := 0, slots := 0, locals := 0 }) [.ref h, .int (nI p)] G ca (stT ca h a S) (stT ca h a (u_fz S (thaw1 (s_fz S) p))) := by
  refine CtV.ofW (cc := cX3_thaw) (maxL := 2) (by decide) rfl (Nat.le_of_ble_eq_true rfl) ?_
  intro pr en s m be me c A ls Q H hx hb hml hts hown hev hP hD hA hS hl hret
  have hown : s.vm.findClass RX3 = some m.cls := hown
  have hl : lv_has ls 2 [(0, .ref h), (1, .int (nI p))] := hl
  have in_wsX30 : ∀ w ∈ wsX30, w ∈ wsX3_thaw := fun _ h => List.mem_cons_of_mem _ (List.mem_append_right _ h)
  refine lv_aload_n hx hb dX3_thaw_0 rfl (lv_at hl 0 rfl) ?_
  refine lv_dup hx hb dX3_thaw_1 rfl ?_
  refine va_get (D := G) (ci := 3) (v := .int (s_fz S)) (C := RX3) (T := TX3) (N := 15) hx hb hts in_wsX30 hown hev.1 hP 0 rfl rfl 9 (by decide) (hts (.fieldLink RX3 46 "PuddleMinistries$Street" "frozenSet" "I") (List.mem_of_getElem? (i := 1) rfl)) (fun _ h9 => h9) rfl dX3_thaw_2 ?_
  refine lv_iconst (v := 1) hx hb dX3_thaw_5 (by decide) ?_
  refine lv_iload_n hx hb dX3_thaw_6 rfl (lv_at hl 1 rfl) ?_
  refine lv_ishl hx hb dX3_thaw_7 ?_
  refine lv_iconst (v := (-1)) hx hb dX3_thaw_8 (by decide) ?_
  refine lv_ixor hx hb dX3_thaw_9 ?_
  refine lv_iand hx hb dX3_thaw_10 ?_
  refine va_put (D := G) (ci := 3) (v := .int ((s_fz S) &&& ((1 <<< ((nI p) &&& 31)) ^^^ (-1)))) (ty := .int) (C := RX3) (T := TX3) (N := 15) hx hb hts in_wsX30 tyX3 tyX3_ok nmX3 hown hev.1 hP hD hS 0 rfl rfl 9 (by decide) (hts (.fieldLink RX3 46 "PuddleMinistries$Street" "frozenSet" "I") (List.mem_of_getElem? (i := 1) rfl)) (fun _ h9 => h9) rfl (by decide +kernel) rfl rfl (Nat.le_of_ble_eq_true rfl) dX3_thaw_11 (fun H locs hP hD hS => ?_)
  have hP : va_P G vwCl (stT ca h a (s_se S, s_br S, s_wa S, s_cr S, s_sh S, s_ow S, s_pa S, s_cb S, s_pd S, (s_fz S) &&& ((1 <<< ((nI p) &&& 31)) ^^^ (-1)), s_dk S, s_dy S, s_fe S, s_dr S, s_dn S)) H := hP
  have hD : va_D A (stT ca h a (s_se S, s_br S, s_wa S, s_cr S, s_sh S, s_ow S, s_pa S, s_cb S, s_pd S, (s_fz S) &&& ((1 <<< ((nI p) &&& 31)) ^^^ (-1)), s_dk S, s_dy S, s_fe S, s_dr S, s_dn S)) := hD
  exact hret _ _ _ _ hP hS dX3_thaw_14
