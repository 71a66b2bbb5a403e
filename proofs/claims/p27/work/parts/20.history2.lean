theorem rotR_5 (rf : Nat → Option Nat) : rotR rf 5 = rf 0 := by unfold rotR; rw [if_neg (by omega), if_pos rfl]
set_option maxHeartbeats 4000000 in
set_option maxRecDepth 100000 in
theorem c_X0_record_lt (l : Launch) (G : va_G) (ca : Nat → ClassId) (hh ka : Nat) (n : Nat) (rf : Nat → Option Nat) (kj : Nat) (bj : Nat → Nat) (T : SS) (h : Nat) (a : Nat → Nat) (S : SS) (O : va_W) (hn : n < 6) (hkj : rf n = some kj) : CtV l yX0_record wsX0_record ({ frames := 2, cells := 0, slots := 0, locals := 43 }) [.ref hh, .ref h] G ca ((hiT ca hh ka (nI n) rf) ++ ((stT ca kj bj T) ++ ((stT ca h a S) ++ O))) ((hiT ca hh ka (nI (n + 1)) rf) ++ ((stT ca kj bj S) ++ ((stT ca h a S) ++ O))) := by
  refine CtV.ofW (cc := cX0_record) (maxL := 2) (by decide) rfl (Nat.le_of_ble_eq_true rfl) ?_
  intro pr en s m be me c A ls Q H hx hb hml hts hown hev hP hD hA hS hl hret
  have hown : s.vm.findClass RX0 = some m.cls := hown
  have hl : lv_has ls 2 [(0, .ref hh), (1, .ref h)] := hl
  have in_wsX00 : ∀ w ∈ wsX00, w ∈ wsX0_record := fun _ h => List.mem_cons_of_mem _ (List.mem_append_left _ (List.mem_append_right _ h))
  have in_wsX30 : ∀ w ∈ wsX30, w ∈ wsX0_record := fun _ h => List.mem_cons_of_mem _ (List.mem_append_right _ h)
  refine lv_aload_n hx hb dX0_record_0 rfl (lv_at hl 0 rfl) ?_
  refine va_get (D := G) (ci := 0) (v := .int (nI n)) (C := RX0) (T := TX0) (N := 2) hx hb hts in_wsX00 hown hev.1 hP 0 rfl rfl 1 (by decide) (hts (.fieldLink RX0 18 "PuddleMinistries$History" "size" "I") (List.mem_of_getElem? (i := 1) rfl)) (fun _ h9 => h9) rfl dX0_record_1 ?_
  refine lv_bipush (v := nI 6) hx hb dX0_record_4 (by decide) ?_
  refine lv_icmp_lt (tgt := 13) hx hb dX0_record_6 (by decide) (fun c_1 => ?_) (fun c_1 => ?_)
  · skip
    refine lv_aload_n hx hb dX0_record_13 rfl (lv_at hl 0 rfl) ?_
    refine va_get (D := G) (ci := 0) (v := .ref ka) (C := RX0) (T := TX0) (N := 2) hx hb hts in_wsX00 hown hev.1 hP 0 rfl rfl 0 (by decide) (hts (.fieldLink RX0 11 "PuddleMinistries$History" "kept" "[LPuddleMinistries$Street;") (List.mem_of_getElem? (i := 2) rfl)) (fun _ h9 => h9) rfl dX0_record_14 ?_
    refine lv_aload_n hx hb dX0_record_17 rfl (lv_at hl 0 rfl) ?_
    refine va_get (D := G) (ci := 0) (v := .int (nI n)) (C := RX0) (T := TX0) (N := 2) hx hb hts in_wsX00 hown hev.1 hP 0 rfl rfl 1 (by decide) (hts (.fieldLink RX0 18 "PuddleMinistries$History" "size" "I") (List.mem_of_getElem? (i := 1) rfl)) (fun _ h9 => h9) rfl dX0_record_18 ?_
    refine b_aald hx hb hev.1 hP 1 rfl rfl (j := n) (by omega) (by decide) (v := kj) hkj dX0_record_21 ?_
    refine lv_aload_n hx hb dX0_record_22 rfl (lv_at hl 1 rfl) ?_
    have hP : va_P G vwCl ((hiT ca hh ka (nI n) rf) ++ (((stT ca kj bj T) ++ (stT ca h a S)) ++ O)) H := hP
    have hD : va_D A ((hiT ca hh ka (nI n) rf) ++ (((stT ca kj bj T) ++ (stT ca h a S)) ++ O)) := hD
    refine goV (va_runV (As := [.ref h]) (rest := []) ⟨hx, hb, hml, hown, hts⟩ (CtV.use (c_X3_copyFrom l G ca kj bj T h a S) H.size) (cwV 1 hts gX0_record_X3_copyFrom rfl rfl rfl (by decide +kernel) ⟨Nat.le_of_ble_eq_true rfl, Nat.le_of_ble_eq_true rfl⟩) (pcW_V hev (P_left (P_right hP)) (D_left (D_right hD)) (q0 := 0) rfl rfl rfl) rfl rfl hl.1 rfl (lv_room (Nat.le_of_ble_eq_true rfl)) dX0_record_23 ⟨Nat.zero_le _, Nat.zero_le _⟩) hP hD hS hA (app_F stF stF) (fun H locs hP hD hS => ?_)
    have hP : va_P G vwCl ((hiT ca hh ka (nI n) rf) ++ ((stT ca kj bj S) ++ ((stT ca h a S) ++ O))) H := hP
    have hD : va_D A ((hiT ca hh ka (nI n) rf) ++ ((stT ca kj bj S) ++ ((stT ca h a S) ++ O))) := hD
    refine lv_aload_n hx hb dX0_record_26 rfl (lv_at hl 0 rfl) ?_
    refine lv_dup hx hb dX0_record_27 rfl ?_
    refine va_get (D := G) (ci := 0) (v := .int (nI n)) (C := RX0) (T := TX0) (N := 2) hx hb hts in_wsX00 hown hev.1 hP 0 rfl rfl 1 (by decide) (hts (.fieldLink RX0 18 "PuddleMinistries$History" "size" "I") (List.mem_of_getElem? (i := 1) rfl)) (fun _ h9 => h9) rfl dX0_record_28 ?_
    refine lv_iconst (v := nI 1) hx hb dX0_record_31 (by decide) ?_
    refine lv_iadd hx hb dX0_record_32 ?_
    refine lv_eqi (nI_add _ _) ?_
    refine va_put (D := G) (ci := 0) (v := .int (nI (n + 1))) (ty := .int) (C := RX0) (T := TX0) (N := 2) hx hb hts in_wsX00 tyX0 tyX0_ok nmX0 hown hev.1 hP hD hS 0 rfl rfl 1 (by decide) (hts (.fieldLink RX0 18 "PuddleMinistries$History" "size" "I") (List.mem_of_getElem? (i := 1) rfl)) (fun _ h9 => h9) rfl (by decide +kernel) rfl rfl (Nat.le_of_ble_eq_true rfl) dX0_record_33 (fun H locs hP hD hS => ?_)
    have hP : va_P G vwCl ((hiT ca hh ka (nI (n + 1)) rf) ++ ((stT ca kj bj S) ++ ((stT ca h a S) ++ O))) H := hP
    have hD : va_D A ((hiT ca hh ka (nI (n + 1)) rf) ++ ((stT ca kj bj S) ++ ((stT ca h a S) ++ O))) := hD
    exact hret _ _ _ _ hP hS dX0_record_36
  · skip
    exact absurd (nI_lt (by omega) (by omega)) c_1
set_option maxHeartbeats 4000000 in
set_option maxRecDepth 100000 in
theorem c_X0_record_eq (l : Launch) (G : va_G) (ca : Nat → ClassId) (hh ka : Nat) (rf : Nat → Option Nat) (kj : Nat) (bj : Nat → Nat) (T : SS) (h : Nat) (a : Nat → Nat) (S : SS) (O : va_W) (hkj : rf 0 = some kj) (hob : ∀ i, i < 6 → ∃ (v x : Nat) (y : List Value), rf i = some v ∧ (hiT ca hh ka (nI 6) rf ++ (stT ca kj bj T ++ (stT ca h a S ++ O)))[x]? = some (v, .inr (3, y))) : CtV l yX0_record wsX0_record ({ frames := 2, cells := 0, slots := 0, locals := 43 }) [.ref hh, .ref h] G ca ((hiT ca hh ka (nI 6) rf) ++ ((stT ca kj bj T) ++ ((stT ca h a S) ++ O))) ((hiT ca hh ka (nI 6) (rotR rf)) ++ ((stT ca kj bj S) ++ ((stT ca h a S) ++ O))) := by
  refine CtV.ofW (cc := cX0_record) (maxL := 2) (by decide) rfl (Nat.le_of_ble_eq_true rfl) ?_
  intro pr en s m be me c A ls Q H hx hb hml hts hown hev hP hD hA hS hl hret
  have hown : s.vm.findClass RX0 = some m.cls := hown
  have hl : lv_has ls 2 [(0, .ref hh), (1, .ref h)] := hl
  have in_wsX00 : ∀ w ∈ wsX00, w ∈ wsX0_record := fun _ h => List.mem_cons_of_mem _ (List.mem_append_left _ (List.mem_append_right _ h))
  have in_wsX30 : ∀ w ∈ wsX30, w ∈ wsX0_record := fun _ h => List.mem_cons_of_mem _ (List.mem_append_right _ h)
  refine lv_aload_n hx hb dX0_record_0 rfl (lv_at hl 0 rfl) ?_
  refine va_get (D := G) (ci := 0) (v := .int (nI 6)) (C := RX0) (T := TX0) (N := 2) hx hb hts in_wsX00 hown hev.1 hP 0 rfl rfl 1 (by decide) (hts (.fieldLink RX0 18 "PuddleMinistries$History" "size" "I") (List.mem_of_getElem? (i := 1) rfl)) (fun _ h9 => h9) rfl dX0_record_1 ?_
  refine lv_bipush (v := nI 6) hx hb dX0_record_4 (by decide) ?_
  refine lv_icmp_lt (tgt := 13) hx hb dX0_record_6 (by decide) (fun c_1 => ?_) (fun c_1 => ?_)
  · skip
    exact absurd c_1 (nI_nlt (by omega) (by omega))
  · skip
    refine lv_aload_n hx hb dX0_record_9 rfl (lv_at hl 0 rfl) ?_
    refine goVw (va_runV (As := []) (rest := []) ⟨hx, hb, hml, hown, hts⟩ (CtV.use (c_X0_dropOldest l G ca ((hiT ca hh ka (nI 6) rf) ++ ((stT ca kj bj T) ++ ((stT ca h a S) ++ O))) 0 1 hh ka rf rfl rfl (by decide) hob) H.size) (cwV 0 hts gX0_record_X0_dropOldest rfl rfl rfl (by decide +kernel) ⟨Nat.le_of_ble_eq_true rfl, Nat.le_of_ble_eq_true rfl⟩) (pcW_V hev hP hD (q0 := 0) rfl rfl rfl) rfl rfl hl.1 rfl (lv_room (Nat.le_of_ble_eq_true rfl)) dX0_record_10 ⟨Nat.zero_le _, Nat.zero_le _⟩) hD hS hA rfl (fun H locs hP hD hS => ?_)
    have hP : va_P G vwCl ((hiT ca hh ka (nI 5) (rotR rf)) ++ ((stT ca kj bj T) ++ ((stT ca h a S) ++ O))) H := hP
    have hD : va_D A ((hiT ca hh ka (nI 5) (rotR rf)) ++ ((stT ca kj bj T) ++ ((stT ca h a S) ++ O))) := hD
    refine lv_aload_n hx hb dX0_record_13 rfl (lv_at hl 0 rfl) ?_
    refine va_get (D := G) (ci := 0) (v := .ref ka) (C := RX0) (T := TX0) (N := 2) hx hb hts in_wsX00 hown hev.1 hP 0 rfl rfl 0 (by decide) (hts (.fieldLink RX0 11 "PuddleMinistries$History" "kept" "[LPuddleMinistries$Street;") (List.mem_of_getElem? (i := 2) rfl)) (fun _ h9 => h9) rfl dX0_record_14 ?_
    refine lv_aload_n hx hb dX0_record_17 rfl (lv_at hl 0 rfl) ?_
    refine va_get (D := G) (ci := 0) (v := .int (nI 5)) (C := RX0) (T := TX0) (N := 2) hx hb hts in_wsX00 hown hev.1 hP 0 rfl rfl 1 (by decide) (hts (.fieldLink RX0 18 "PuddleMinistries$History" "size" "I") (List.mem_of_getElem? (i := 1) rfl)) (fun _ h9 => h9) rfl dX0_record_18 ?_
    refine b_aald hx hb hev.1 hP 1 rfl rfl (j := 5) (by omega) (by decide) (v := kj) (by rw [rotR_5]; exact hkj) dX0_record_21 ?_
    refine lv_aload_n hx hb dX0_record_22 rfl (lv_at hl 1 rfl) ?_
    have hP : va_P G vwCl ((hiT ca hh ka (nI 5) (rotR rf)) ++ (((stT ca kj bj T) ++ (stT ca h a S)) ++ O)) H := hP
    have hD : va_D A ((hiT ca hh ka (nI 5) (rotR rf)) ++ (((stT ca kj bj T) ++ (stT ca h a S)) ++ O)) := hD
    refine goV (va_runV (As := [.ref h]) (rest := []) ⟨hx, hb, hml, hown, hts⟩ (CtV.use (c_X3_copyFrom l G ca kj bj T h a S) H.size) (cwV 1 hts gX0_record_X3_copyFrom rfl rfl rfl (by decide +kernel) ⟨Nat.le_of_ble_eq_true rfl, Nat.le_of_ble_eq_true rfl⟩) (pcW_V hev (P_left (P_right hP)) (D_left (D_right hD)) (q0 := 0) rfl rfl rfl) rfl rfl hl.1 rfl (lv_room (Nat.le_of_ble_eq_true rfl)) dX0_record_23 ⟨Nat.zero_le _, Nat.zero_le _⟩) hP hD hS hA (app_F stF stF) (fun H locs hP hD hS => ?_)
    have hP : va_P G vwCl ((hiT ca hh ka (nI 5) (rotR rf)) ++ ((stT ca kj bj S) ++ ((stT ca h a S) ++ O))) H := hP
    have hD : va_D A ((hiT ca hh ka (nI 5) (rotR rf)) ++ ((stT ca kj bj S) ++ ((stT ca h a S) ++ O))) := hD
    refine lv_aload_n hx hb dX0_record_26 rfl (lv_at hl 0 rfl) ?_
    refine lv_dup hx hb dX0_record_27 rfl ?_
    refine va_get (D := G) (ci := 0) (v := .int (nI 5)) (C := RX0) (T := TX0) (N := 2) hx hb hts in_wsX00 hown hev.1 hP 0 rfl rfl 1 (by decide) (hts (.fieldLink RX0 18 "PuddleMinistries$History" "size" "I") (List.mem_of_getElem? (i := 1) rfl)) (fun _ h9 => h9) rfl dX0_record_28 ?_
    refine lv_iconst (v := nI 1) hx hb dX0_record_31 (by decide) ?_
    refine lv_iadd hx hb dX0_record_32 ?_
    refine lv_eqi (nI_add _ _) ?_
    refine va_put (D := G) (ci := 0) (v := .int (nI (5 + 1))) (ty := .int) (C := RX0) (T := TX0) (N := 2) hx hb hts in_wsX00 tyX0 tyX0_ok nmX0 hown hev.1 hP hD hS 0 rfl rfl 1 (by decide) (hts (.fieldLink RX0 18 "PuddleMinistries$History" "size" "I") (List.mem_of_getElem? (i := 1) rfl)) (fun _ h9 => h9) rfl (by decide +kernel) rfl rfl (Nat.le_of_ble_eq_true rfl) dX0_record_33 (fun H locs hP hD hS => ?_)
    have hP : va_P G vwCl ((hiT ca hh ka (nI (5 + 1)) (rotR rf)) ++ ((stT ca kj bj S) ++ ((stT ca h a S) ++ O))) H := hP
    have hD : va_D A ((hiT ca hh ka (nI (5 + 1)) (rotR rf)) ++ ((stT ca kj bj S) ++ ((stT ca h a S) ++ O))) := hD
    exact hret _ _ _ _ hP hS dX0_record_36
set_option maxHeartbeats 4000000 in
set_option maxRecDepth 100000 in
theorem c_X0_takeBack (l : Launch) (G : va_G) (ca : Nat → ClassId) (hh ka : Nat) (n : Nat) (rf : Nat → Option Nat) (h : Nat) (a : Nat → Nat) (S : SS) (kj : Nat) (bj : Nat → Nat) (T : SS) (hn0 : 0 < n) (hn : n ≤ 6) (hkj : rf (n - 1) = some kj) : CtV l yX0_takeBack wsX0_takeBack ({ frames := 2, cells := 0, slots := 0, locals := 43 }) [.ref hh, .ref h] G ca ((hiT ca hh ka (nI n) rf) ++ ((stT ca h a S) ++ (stT ca kj bj T))) ((hiT ca hh ka (nI (n - 1)) rf) ++ ((stT ca h a T) ++ (stT ca kj bj T))) := by
  refine CtV.ofW (cc := cX0_takeBack) (maxL := 2) (by decide) rfl (Nat.le_of_ble_eq_true rfl) ?_
  intro pr en s m be me c A ls Q H hx hb hml hts hown hev hP hD hA hS hl hret
  have hown : s.vm.findClass RX0 = some m.cls := hown
  have hl : lv_has ls 2 [(0, .ref hh), (1, .ref h)] := hl
  have in_wsX00 : ∀ w ∈ wsX00, w ∈ wsX0_takeBack := fun _ h => List.mem_cons_of_mem _ (List.mem_append_left _ (List.mem_append_right _ h))
  have in_wsX30 : ∀ w ∈ wsX30, w ∈ wsX0_takeBack := fun _ h => List.mem_cons_of_mem _ (List.mem_append_right _ h)
  refine lv_aload_n hx hb dX0_takeBack_0 rfl (lv_at hl 0 rfl) ?_
  refine va_get (D := G) (ci := 0) (v := .int (nI n)) (C := RX0) (T := TX0) (N := 2) hx hb hts in_wsX00 hown hev.1 hP 0 rfl rfl 1 (by decide) (hts (.fieldLink RX0 18 "PuddleMinistries$History" "size" "I") (List.mem_of_getElem? (i := 1) rfl)) (fun _ h9 => h9) rfl dX0_takeBack_1 ?_
  refine lv_if_gt (tgt := 8) hx hb dX0_takeBack_4 (by decide) (fun c_1 => ?_) (fun c_1 => ?_)
  · skip
    refine lv_aload_n hx hb dX0_takeBack_8 rfl (lv_at hl 0 rfl) ?_
    refine lv_dup hx hb dX0_takeBack_9 rfl ?_
    refine va_get (D := G) (ci := 0) (v := .int (nI n)) (C := RX0) (T := TX0) (N := 2) hx hb hts in_wsX00 hown hev.1 hP 0 rfl rfl 1 (by decide) (hts (.fieldLink RX0 18 "PuddleMinistries$History" "size" "I") (List.mem_of_getElem? (i := 1) rfl)) (fun _ h9 => h9) rfl dX0_takeBack_10 ?_
    refine lv_iconst (v := nI 1) hx hb dX0_takeBack_13 (by decide) ?_
    refine lv_isub hx hb dX0_takeBack_14 ?_
    refine lv_eqi (pk_sub (by omega)) ?_
    refine va_put (D := G) (ci := 0) (v := .int (nI (n - 1))) (ty := .int) (C := RX0) (T := TX0) (N := 2) hx hb hts in_wsX00 tyX0 tyX0_ok nmX0 hown hev.1 hP hD hS 0 rfl rfl 1 (by decide) (hts (.fieldLink RX0 18 "PuddleMinistries$History" "size" "I") (List.mem_of_getElem? (i := 1) rfl)) (fun _ h9 => h9) rfl (by decide +kernel) rfl rfl (Nat.le_of_ble_eq_true rfl) dX0_takeBack_15 (fun H locs hP hD hS => ?_)
    have hP : va_P G vwCl ((hiT ca hh ka (nI (n - 1)) rf) ++ ((stT ca h a S) ++ (stT ca kj bj T))) H := hP
    have hD : va_D A ((hiT ca hh ka (nI (n - 1)) rf) ++ ((stT ca h a S) ++ (stT ca kj bj T))) := hD
    refine lv_aload_n hx hb dX0_takeBack_18 rfl (lv_at hl 1 rfl) ?_
    refine lv_aload_n hx hb dX0_takeBack_19 rfl (lv_at hl 0 rfl) ?_
    refine va_get (D := G) (ci := 0) (v := .ref ka) (C := RX0) (T := TX0) (N := 2) hx hb hts in_wsX00 hown hev.1 hP 0 rfl rfl 0 (by decide) (hts (.fieldLink RX0 11 "PuddleMinistries$History" "kept" "[LPuddleMinistries$Street;") (List.mem_of_getElem? (i := 2) rfl)) (fun _ h9 => h9) rfl dX0_takeBack_20 ?_
    refine lv_aload_n hx hb dX0_takeBack_23 rfl (lv_at hl 0 rfl) ?_
    refine va_get (D := G) (ci := 0) (v := .int (nI (n - 1))) (C := RX0) (T := TX0) (N := 2) hx hb hts in_wsX00 hown hev.1 hP 0 rfl rfl 1 (by decide) (hts (.fieldLink RX0 18 "PuddleMinistries$History" "size" "I") (List.mem_of_getElem? (i := 1) rfl)) (fun _ h9 => h9) rfl dX0_takeBack_24 ?_
    refine b_aald hx hb hev.1 hP 1 rfl rfl (j := (n - 1)) (by omega) (by decide) (v := kj) hkj dX0_takeBack_27 ?_
    have hP : va_P G vwCl ((hiT ca hh ka (nI (n - 1)) rf) ++ (((stT ca h a S) ++ (stT ca kj bj T)) ++ ([]))) H := hP
    have hD : va_D A ((hiT ca hh ka (nI (n - 1)) rf) ++ (((stT ca h a S) ++ (stT ca kj bj T)) ++ ([]))) := hD
    refine goV (va_runV (As := [.ref kj]) (rest := []) ⟨hx, hb, hml, hown, hts⟩ (CtV.use (c_X3_copyFrom l G ca h a S kj bj T) H.size) (cwV 1 hts gX0_takeBack_X3_copyFrom rfl rfl rfl (by decide +kernel) ⟨Nat.le_of_ble_eq_true rfl, Nat.le_of_ble_eq_true rfl⟩) (pcW_V hev (P_left (P_right hP)) (D_left (D_right hD)) (q0 := 0) rfl rfl rfl) rfl rfl hl.1 rfl (lv_room (Nat.le_of_ble_eq_true rfl)) dX0_takeBack_28 ⟨Nat.zero_le _, Nat.zero_le _⟩) hP hD hS hA (app_F stF stF) (fun H locs hP hD hS => ?_)
    have hP : va_P G vwCl ((hiT ca hh ka (nI (n - 1)) rf) ++ ((stT ca h a T) ++ (stT ca kj bj T))) H := hP
    have hD : va_D A ((hiT ca hh ka (nI (n - 1)) rf) ++ ((stT ca h a T) ++ (stT ca kj bj T))) := hD
    exact hret _ _ _ _ hP hS dX0_takeBack_31
  · skip
    exact absurd (nI_lt (a := 0) (by omega) (by omega)) c_1
