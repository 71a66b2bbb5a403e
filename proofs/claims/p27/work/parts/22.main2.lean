theorem pos_ne {x : Int32} (h : 0 < x) : ¬ x = 0 := fun q => by rw [q] at h; exact absurd h (by decide)
theorem cnt_out {x : Int32} (h : x.toInt < 0 ∨ 15 < x.toInt) (c : ¬ x < 0) : (4 : Int32) ≤ x := by
  have h1 := h.resolve_left (fun q => c (Int32.lt_iff_toInt_lt.mpr q))
  exact Int32.le_iff_toInt_le.mpr (by show (4 : Int) ≤ x.toInt; omega)
theorem cnt_sw {x : Int32} (h : x.toInt < 0 ∨ 15 < x.toInt) : x.toInt < 4 ∨ 15 < x.toInt := h.imp (fun q => by omega) id
set_option maxHeartbeats 4000000 in
set_option maxRecDepth 100000 in
theorem c_X4_pass_out (l : Launch) (G : va_G) (ca : Nat → ClassId) (xo sl : Nat) (hp ap : Nat) (g : Nat → Int32) (np : Nat) (hh ka : Nat) (n : Nat) (rf : Nat → Option Nat) (kj : Nat) (bj : Nat → Nat) (T : SS) (h : Nat) (a : Nat → Nat) (S : SS) (O : va_W) (Z : va_W) (x : Int32) (hx0 : x < 0 ∨ ¬ x ≤ 11) : CtI l yX4_pass wsX4_pass ({ frames := 0, cells := 0, slots := 0, locals := 0 }) [.ref xo, .int x] G ca ((xoT xo h hp hh sl) ++ ((paT ca hp ap (g, nI np)) ++ ((hiT ca hh ka (nI n) rf) ++ ((stT ca kj bj T) ++ ((stT ca h a S) ++ (O ++ Z)))))) ((xoT xo h hp hh sl) ++ ((paT ca hp ap (g, nI np)) ++ ((hiT ca hh ka (nI n) rf) ++ ((stT ca kj bj T) ++ ((stT ca h a S) ++ (O ++ Z)))))) (-2) := by
  refine CtI.ofW (cc := cX4_pass) (maxL := 2) (rt := .int) (by decide) rfl (Nat.le_of_ble_eq_true rfl) rfl ?_
  intro pr en s m be me c A ls Q H hx hb hml hts hown hev hP hD hA hS hl hret
  have hown : s.vm.findClass RX4 = some m.cls := hown
  have hl : lv_has ls 2 [(0, .ref xo), (1, .int x)] := hl
  have in_wsX40 : ∀ w ∈ wsX40, w ∈ wsX4_pass := fun _ h => List.mem_cons_of_mem _ (List.mem_append_left _ (List.mem_append_left _ (List.mem_append_right _ h)))
  have in_wsX30 : ∀ w ∈ wsX30, w ∈ wsX4_pass := fun _ h => List.mem_cons_of_mem _ (List.mem_append_left _ (List.mem_append_right _ h))
  have in_wsX00 : ∀ w ∈ wsX00, w ∈ wsX4_pass := fun _ h => List.mem_cons_of_mem _ (List.mem_append_right _ h)
  refine lv_iload_n hx hb dX4_pass_0 rfl (lv_at hl 1 rfl) ?_
  refine lv_if_lt (tgt := 10) hx hb dX4_pass_1 (by decide) (fun c_1 => ?_) (fun c_1 => ?_)
  · skip
    refine lv_bipush (v := (-2)) hx hb dX4_pass_10 (by decide) ?_
    exact hret _ _ _ _ hP hS dX4_pass_12
  · skip
    refine lv_iload_n hx hb dX4_pass_4 rfl (lv_at hl 1 rfl) ?_
    refine lv_bipush (v := 11) hx hb dX4_pass_5 (by decide) ?_
    refine lv_icmp_le (tgt := 13) hx hb dX4_pass_7 (by decide) (fun c_2 => ?_) (fun c_2 => ?_)
    · skip
      exact hx0.elim (fun q => absurd q (by assumption)) (fun q => absurd c_2 q)
    · skip
      refine lv_bipush (v := (-2)) hx hb dX4_pass_10 (by decide) ?_
      exact hret _ _ _ _ hP hS dX4_pass_12
set_option maxHeartbeats 4000000 in
set_option maxRecDepth 100000 in
theorem c_X4_pass_many (l : Launch) (G : va_G) (ca : Nat → ClassId) (xo sl : Nat) (hp ap : Nat) (g : Nat → Int32) (np : Nat) (hh ka : Nat) (n : Nat) (rf : Nat → Option Nat) (kj : Nat) (bj : Nat → Nat) (T : SS) (h : Nat) (a : Nat → Nat) (S : SS) (O : va_W) (Z : va_W) (hd : 9999 ≤ s_dy S) : CtI l yX4_pass wsX4_pass ({ frames := 0, cells := 0, slots := 0, locals := 0 }) [.ref xo, .int 11] G ca ((xoT xo h hp hh sl) ++ ((paT ca hp ap (g, nI np)) ++ ((hiT ca hh ka (nI n) rf) ++ ((stT ca kj bj T) ++ ((stT ca h a S) ++ (O ++ Z)))))) ((xoT xo h hp hh sl) ++ ((paT ca hp ap (g, nI np)) ++ ((hiT ca hh ka (nI n) rf) ++ ((stT ca kj bj T) ++ ((stT ca h a S) ++ (O ++ Z)))))) (-4) := by
  refine CtI.ofW (cc := cX4_pass) (maxL := 2) (rt := .int) (by decide) rfl (Nat.le_of_ble_eq_true rfl) rfl ?_
  intro pr en s m be me c A ls Q H hx hb hml hts hown hev hP hD hA hS hl hret
  have hown : s.vm.findClass RX4 = some m.cls := hown
  have hl : lv_has ls 2 [(0, .ref xo), (1, .int 11)] := hl
  have in_wsX40 : ∀ w ∈ wsX40, w ∈ wsX4_pass := fun _ h => List.mem_cons_of_mem _ (List.mem_append_left _ (List.mem_append_left _ (List.mem_append_right _ h)))
  have in_wsX30 : ∀ w ∈ wsX30, w ∈ wsX4_pass := fun _ h => List.mem_cons_of_mem _ (List.mem_append_left _ (List.mem_append_right _ h))
  have in_wsX00 : ∀ w ∈ wsX00, w ∈ wsX4_pass := fun _ h => List.mem_cons_of_mem _ (List.mem_append_right _ h)
  refine lv_iload_n hx hb dX4_pass_0 rfl (lv_at hl 1 rfl) ?_
  refine lv_if_lt (tgt := 10) hx hb dX4_pass_1 (by decide) (fun c_1 => ?_) (fun c_1 => ?_)
  · skip
    exact absurd c_1 (by decide)
  · skip
    refine lv_iload_n hx hb dX4_pass_4 rfl (lv_at hl 1 rfl) ?_
    refine lv_bipush (v := 11) hx hb dX4_pass_5 (by decide) ?_
    refine lv_icmp_le (tgt := 13) hx hb dX4_pass_7 (by decide) (fun c_2 => ?_) (fun c_2 => ?_)
    · skip
      refine lv_iload_n hx hb dX4_pass_13 rfl (lv_at hl 1 rfl) ?_
      refine lv_bipush (v := 11) hx hb dX4_pass_14 (by decide) ?_
      refine lv_icmp_ne (tgt := 35) hx hb dX4_pass_16 (by decide) (fun c_3 => ?_) (fun c_3 => ?_)
      · skip
        exact absurd (by decide) c_3
      · skip
        refine lv_aload_n hx hb dX4_pass_19 rfl (lv_at hl 0 rfl) ?_
        refine va_get (D := G) (ci := 4) (v := .ref h) (C := RX4) (T := TX4) (N := 4) hx hb hts in_wsX40 hown hev.1 hP 0 rfl rfl 0 (by decide) (hts (.fieldLink RX4 10 "PuddleMinistries" "street" "LPuddleMinistries$Street;") (List.mem_of_getElem? (i := 1) rfl)) (fun _ h9 => h9) rfl dX4_pass_20 ?_
        refine va_get (D := G) (ci := 3) (v := .int (s_dy S)) (C := RX3) (T := TX3) (N := 15) hx hb hts in_wsX30 hown hev.1 hP 15 rfl rfl 11 (by decide) (hts (.fieldLink RX4 110 "PuddleMinistries$Street" "days" "I") (List.mem_of_getElem? (i := 2) rfl)) (fun _ h9 => h9) rfl dX4_pass_23 ?_
        refine lv_sipush (v := 9999) hx hb dX4_pass_26 (by decide) ?_
        refine lv_icmp_lt (tgt := 35) hx hb dX4_pass_29 (by decide) (fun c_4 => ?_) (fun c_4 => ?_)
        · skip
          exact absurd c_4 (Int32.not_lt.mpr hd)
        · skip
          refine lv_bipush (v := (-4)) hx hb dX4_pass_32 (by decide) ?_
          exact hret _ _ _ _ hP hS dX4_pass_34
    · skip
      exact absurd (by decide) c_2
set_option maxHeartbeats 4000000 in
set_option maxRecDepth 100000 in
theorem c_X4_pass_ok (l : Launch) (G : va_G) (ca : Nat → ClassId) (xo sl : Nat) (hp ap : Nat) (g : Nat → Int32) (np : Nat) (hh ka : Nat) (n : Nat) (rf : Nat → Option Nat) (kj : Nat) (bj : Nat → Nat) (T : SS) (h : Nat) (a : Nat → Nat) (S : SS) (O : va_W) (Z : va_W) (x : Int32) (n6 : Nat) (n12 : Nat) (hn6 : n ≤ 6) (hkj : recT n rf = some kj) (hob : ∀ i, i < 6 → ∃ (v x : Nat) (y : List Value), rf i = some v ∧ (hiT ca hh ka (nI n) rf ++ (stT ca kj bj T ++ (stT ca h a S ++ O)))[x]? = some (v, .inr (3, y))) (hx1 : ¬ x < 0) (hx2 : x ≤ 11) (hd : ¬ (x = 11 ∧ 9999 ≤ s_dy S)) (h6 : n6 = 6) (h12 : n12 = 12) : CtI l yX4_pass wsX4_pass ({ frames := 4, cells := 0, slots := 0, locals := 87 }) [.ref xo, .int x] G ca ((xoT xo h hp hh sl) ++ ((paT ca hp ap (g, nI np)) ++ ((hiT ca hh ka (nI n) rf) ++ ((stT ca kj bj T) ++ ((stT ca h a S) ++ (O ++ Z)))))) ((xoT xo h hp hh sl) ++ ((paT ca hp ap (g, nI np)) ++ ((hiT ca hh ka (nI (recN n)) (recR n rf)) ++ ((stT ca kj bj S) ++ ((stT ca h a (lpS x S n6 n12)) ++ (O ++ Z)))))) (smD (s_wa (lpS x S n6 n12)) 12) := by
  refine CtI.ofW (cc := cX4_pass) (maxL := 2) (rt := .int) (by decide) rfl (Nat.le_of_ble_eq_true rfl) rfl ?_
  intro pr en s m be me c A ls Q H hx hb hml hts hown hev hP hD hA hS hl hret
  have hown : s.vm.findClass RX4 = some m.cls := hown
  have hl : lv_has ls 2 [(0, .ref xo), (1, .int x)] := hl
  have in_wsX40 : ∀ w ∈ wsX40, w ∈ wsX4_pass := fun _ h => List.mem_cons_of_mem _ (List.mem_append_left _ (List.mem_append_left _ (List.mem_append_right _ h)))
  have in_wsX30 : ∀ w ∈ wsX30, w ∈ wsX4_pass := fun _ h => List.mem_cons_of_mem _ (List.mem_append_left _ (List.mem_append_right _ h))
  have in_wsX00 : ∀ w ∈ wsX00, w ∈ wsX4_pass := fun _ h => List.mem_cons_of_mem _ (List.mem_append_right _ h)
  refine lv_iload_n hx hb dX4_pass_0 rfl (lv_at hl 1 rfl) ?_
  refine lv_if_lt (tgt := 10) hx hb dX4_pass_1 (by decide) (fun c_1 => ?_) (fun c_1 => ?_)
  · skip
    exact absurd c_1 hx1
  · skip
    refine lv_iload_n hx hb dX4_pass_4 rfl (lv_at hl 1 rfl) ?_
    refine lv_bipush (v := 11) hx hb dX4_pass_5 (by decide) ?_
    refine lv_icmp_le (tgt := 13) hx hb dX4_pass_7 (by decide) (fun c_2 => ?_) (fun c_2 => ?_)
    · skip
      refine lv_iload_n hx hb dX4_pass_13 rfl (lv_at hl 1 rfl) ?_
      refine lv_bipush (v := 11) hx hb dX4_pass_14 (by decide) ?_
      refine lv_icmp_ne (tgt := 35) hx hb dX4_pass_16 (by decide) (fun c_3 => ?_) (fun c_3 => ?_)
      · skip
        refine lv_aload_n hx hb dX4_pass_35 rfl (lv_at hl 0 rfl) ?_
        refine va_get (D := G) (ci := 4) (v := .ref hh) (C := RX4) (T := TX4) (N := 4) hx hb hts in_wsX40 hown hev.1 hP 0 rfl rfl 2 (by decide) (hts (.fieldLink RX4 26 "PuddleMinistries" "history" "LPuddleMinistries$History;") (List.mem_of_getElem? (i := 3) rfl)) (fun _ h9 => h9) rfl dX4_pass_36 ?_
        refine lv_aload_n hx hb dX4_pass_39 rfl (lv_at hl 0 rfl) ?_
        refine va_get (D := G) (ci := 4) (v := .ref h) (C := RX4) (T := TX4) (N := 4) hx hb hts in_wsX40 hown hev.1 hP 0 rfl rfl 0 (by decide) (hts (.fieldLink RX4 10 "PuddleMinistries" "street" "LPuddleMinistries$Street;") (List.mem_of_getElem? (i := 1) rfl)) (fun _ h9 => h9) rfl dX4_pass_40 ?_
        have hP : va_P G vwCl (((xoT xo h hp hh sl) ++ (paT ca hp ap (g, nI np))) ++ (((hiT ca hh ka (nI n) rf) ++ ((stT ca kj bj T) ++ ((stT ca h a S) ++ O))) ++ Z)) H := hP
        have hD : va_D A (((xoT xo h hp hh sl) ++ (paT ca hp ap (g, nI np))) ++ (((hiT ca hh ka (nI n) rf) ++ ((stT ca kj bj T) ++ ((stT ca h a S) ++ O))) ++ Z)) := hD
        refine goV (va_runV (As := [.ref h]) (rest := []) ⟨hx, hb, hml, hown, hts⟩ (CtV.use (c_X0_record l G ca hh ka n rf kj bj T h a S O hn6 hkj hob) H.size) (cwV 1 hts gX4_pass_X0_record rfl rfl rfl (by decide +kernel) ⟨Nat.le_of_ble_eq_true rfl, Nat.le_of_ble_eq_true rfl⟩) (pcW_V hev (P_left (P_right hP)) (D_left (D_right hD)) (q0 := 0) rfl rfl rfl) rfl rfl hl.1 rfl (lv_room (Nat.le_of_ble_eq_true rfl)) dX4_pass_43 ⟨Nat.zero_le _, Nat.zero_le _⟩) hP hD hS hA (app_F hiF (app_F stF (app_F stF rfl))) (fun H locs hP hD hS => ?_)
        have hP : va_P G vwCl ((xoT xo h hp hh sl) ++ ((paT ca hp ap (g, nI np)) ++ ((hiT ca hh ka (nI (recN n)) (recR n rf)) ++ ((stT ca kj bj S) ++ ((stT ca h a S) ++ (O ++ Z)))))) H := hP
        have hD : va_D A ((xoT xo h hp hh sl) ++ ((paT ca hp ap (g, nI np)) ++ ((hiT ca hh ka (nI (recN n)) (recR n rf)) ++ ((stT ca kj bj S) ++ ((stT ca h a S) ++ (O ++ Z)))))) := hD
        refine lv_aload_n hx hb dX4_pass_46 rfl (lv_at hl 0 rfl) ?_
        refine va_get (D := G) (ci := 4) (v := .ref h) (C := RX4) (T := TX4) (N := 4) hx hb hts in_wsX40 hown hev.1 hP 0 rfl rfl 0 (by decide) (hts (.fieldLink RX4 10 "PuddleMinistries" "street" "LPuddleMinistries$Street;") (List.mem_of_getElem? (i := 1) rfl)) (fun _ h9 => h9) rfl dX4_pass_47 ?_
        refine lv_iload_n hx hb dX4_pass_50 rfl (lv_at hl 1 rfl) ?_
        have hP : va_P G vwCl (((xoT xo h hp hh sl) ++ ((paT ca hp ap (g, nI np)) ++ ((hiT ca hh ka (nI (recN n)) (recR n rf)) ++ (stT ca kj bj S)))) ++ ((stT ca h a S) ++ (O ++ Z))) H := hP
        have hD : va_D A (((xoT xo h hp hh sl) ++ ((paT ca hp ap (g, nI np)) ++ ((hiT ca hh ka (nI (recN n)) (recR n rf)) ++ (stT ca kj bj S)))) ++ ((stT ca h a S) ++ (O ++ Z))) := hD
        refine goV (va_runV (As := [.int x]) (rest := []) ⟨hx, hb, hml, hown, hts⟩ (CtV.use (c_X3_letPass l G ca h a S x n6 n12 h6 h12) H.size) (cwV 1 hts gX4_pass_X3_letPass rfl rfl rfl (by decide +kernel) ⟨Nat.le_of_ble_eq_true rfl, Nat.le_of_ble_eq_true rfl⟩) (pcW_V hev (P_left (P_right hP)) (D_left (D_right hD)) (q0 := 0) rfl rfl rfl) rfl rfl hl.1 rfl (lv_room (Nat.le_of_ble_eq_true rfl)) dX4_pass_51 ⟨Nat.zero_le _, Nat.zero_le _⟩) hP hD hS hA stF (fun H locs hP hD hS => ?_)
        have hP : va_P G vwCl ((xoT xo h hp hh sl) ++ ((paT ca hp ap (g, nI np)) ++ ((hiT ca hh ka (nI (recN n)) (recR n rf)) ++ ((stT ca kj bj S) ++ ((stT ca h a (lpS x S n6 n12)) ++ (O ++ Z)))))) H := hP
        have hD : va_D A ((xoT xo h hp hh sl) ++ ((paT ca hp ap (g, nI np)) ++ ((hiT ca hh ka (nI (recN n)) (recR n rf)) ++ ((stT ca kj bj S) ++ ((stT ca h a (lpS x S n6 n12)) ++ (O ++ Z)))))) := hD
        refine lv_aload_n hx hb dX4_pass_54 rfl (lv_at hl 0 rfl) ?_
        refine va_get (D := G) (ci := 4) (v := .ref h) (C := RX4) (T := TX4) (N := 4) hx hb hts in_wsX40 hown hev.1 hP 0 rfl rfl 0 (by decide) (hts (.fieldLink RX4 10 "PuddleMinistries" "street" "LPuddleMinistries$Street;") (List.mem_of_getElem? (i := 1) rfl)) (fun _ h9 => h9) rfl dX4_pass_55 ?_
        refine va_get (D := G) (ci := 3) (v := .ref (a 2)) (C := RX3) (T := TX3) (N := 15) hx hb hts in_wsX30 hown hev.1 hP 15 rfl rfl 2 (by decide) (hts (.fieldLink RX4 65 "PuddleMinistries$Street" "waters" "[I") (List.mem_of_getElem? (i := 4) rfl)) (fun _ h9 => h9) rfl dX4_pass_58 ?_
        refine goIw (va_runS (As := [.ref (a 2)]) (rest := []) ⟨hx, hb, hml, hown, hts⟩ (CtI.use (c_X4_sum l G ca ((xoT xo h hp hh sl) ++ ((paT ca hp ap (g, nI np)) ++ ((hiT ca hh ka (nI (recN n)) (recR n rf)) ++ ((stT ca kj bj S) ++ ((stT ca h a (lpS x S n6 n12)) ++ (O ++ Z)))))) 18 (a 2) 12 (s_wa (lpS x S n6 n12)) rfl (by decide)) H.size) (va_cwS 1 hts gX4_pass_X4_sum rfl rfl rfl (by decide +kernel) ⟨Nat.le_of_ble_eq_true rfl, Nat.le_of_ble_eq_true rfl⟩) (pcW_S hev hP hD) rfl rfl hl.1 rfl (lv_room (Nat.le_of_ble_eq_true rfl)) dX4_pass_61 ⟨Nat.zero_le _, Nat.zero_le _⟩) hD hS hA rfl (fun H locs hP hD hS => ?_)
        exact hret _ _ _ _ hP hS dX4_pass_64
      · skip
        refine lv_aload_n hx hb dX4_pass_19 rfl (lv_at hl 0 rfl) ?_
        refine va_get (D := G) (ci := 4) (v := .ref h) (C := RX4) (T := TX4) (N := 4) hx hb hts in_wsX40 hown hev.1 hP 0 rfl rfl 0 (by decide) (hts (.fieldLink RX4 10 "PuddleMinistries" "street" "LPuddleMinistries$Street;") (List.mem_of_getElem? (i := 1) rfl)) (fun _ h9 => h9) rfl dX4_pass_20 ?_
        refine va_get (D := G) (ci := 3) (v := .int (s_dy S)) (C := RX3) (T := TX3) (N := 15) hx hb hts in_wsX30 hown hev.1 hP 15 rfl rfl 11 (by decide) (hts (.fieldLink RX4 110 "PuddleMinistries$Street" "days" "I") (List.mem_of_getElem? (i := 2) rfl)) (fun _ h9 => h9) rfl dX4_pass_23 ?_
        refine lv_sipush (v := 9999) hx hb dX4_pass_26 (by decide) ?_
        refine lv_icmp_lt (tgt := 35) hx hb dX4_pass_29 (by decide) (fun c_4 => ?_) (fun c_4 => ?_)
        · skip
          refine lv_aload_n hx hb dX4_pass_35 rfl (lv_at hl 0 rfl) ?_
          refine va_get (D := G) (ci := 4) (v := .ref hh) (C := RX4) (T := TX4) (N := 4) hx hb hts in_wsX40 hown hev.1 hP 0 rfl rfl 2 (by decide) (hts (.fieldLink RX4 26 "PuddleMinistries" "history" "LPuddleMinistries$History;") (List.mem_of_getElem? (i := 3) rfl)) (fun _ h9 => h9) rfl dX4_pass_36 ?_
          refine lv_aload_n hx hb dX4_pass_39 rfl (lv_at hl 0 rfl) ?_
          refine va_get (D := G) (ci := 4) (v := .ref h) (C := RX4) (T := TX4) (N := 4) hx hb hts in_wsX40 hown hev.1 hP 0 rfl rfl 0 (by decide) (hts (.fieldLink RX4 10 "PuddleMinistries" "street" "LPuddleMinistries$Street;") (List.mem_of_getElem? (i := 1) rfl)) (fun _ h9 => h9) rfl dX4_pass_40 ?_
          have hP : va_P G vwCl (((xoT xo h hp hh sl) ++ (paT ca hp ap (g, nI np))) ++ (((hiT ca hh ka (nI n) rf) ++ ((stT ca kj bj T) ++ ((stT ca h a S) ++ O))) ++ Z)) H := hP
          have hD : va_D A (((xoT xo h hp hh sl) ++ (paT ca hp ap (g, nI np))) ++ (((hiT ca hh ka (nI n) rf) ++ ((stT ca kj bj T) ++ ((stT ca h a S) ++ O))) ++ Z)) := hD
          refine goV (va_runV (As := [.ref h]) (rest := []) ⟨hx, hb, hml, hown, hts⟩ (CtV.use (c_X0_record l G ca hh ka n rf kj bj T h a S O hn6 hkj hob) H.size) (cwV 1 hts gX4_pass_X0_record rfl rfl rfl (by decide +kernel) ⟨Nat.le_of_ble_eq_true rfl, Nat.le_of_ble_eq_true rfl⟩) (pcW_V hev (P_left (P_right hP)) (D_left (D_right hD)) (q0 := 0) rfl rfl rfl) rfl rfl hl.1 rfl (lv_room (Nat.le_of_ble_eq_true rfl)) dX4_pass_43 ⟨Nat.zero_le _, Nat.zero_le _⟩) hP hD hS hA (app_F hiF (app_F stF (app_F stF rfl))) (fun H locs hP hD hS => ?_)
          have hP : va_P G vwCl ((xoT xo h hp hh sl) ++ ((paT ca hp ap (g, nI np)) ++ ((hiT ca hh ka (nI (recN n)) (recR n rf)) ++ ((stT ca kj bj S) ++ ((stT ca h a S) ++ (O ++ Z)))))) H := hP
          have hD : va_D A ((xoT xo h hp hh sl) ++ ((paT ca hp ap (g, nI np)) ++ ((hiT ca hh ka (nI (recN n)) (recR n rf)) ++ ((stT ca kj bj S) ++ ((stT ca h a S) ++ (O ++ Z)))))) := hD
          refine lv_aload_n hx hb dX4_pass_46 rfl (lv_at hl 0 rfl) ?_
          refine va_get (D := G) (ci := 4) (v := .ref h) (C := RX4) (T := TX4) (N := 4) hx hb hts in_wsX40 hown hev.1 hP 0 rfl rfl 0 (by decide) (hts (.fieldLink RX4 10 "PuddleMinistries" "street" "LPuddleMinistries$Street;") (List.mem_of_getElem? (i := 1) rfl)) (fun _ h9 => h9) rfl dX4_pass_47 ?_
          refine lv_iload_n hx hb dX4_pass_50 rfl (lv_at hl 1 rfl) ?_
          have hP : va_P G vwCl (((xoT xo h hp hh sl) ++ ((paT ca hp ap (g, nI np)) ++ ((hiT ca hh ka (nI (recN n)) (recR n rf)) ++ (stT ca kj bj S)))) ++ ((stT ca h a S) ++ (O ++ Z))) H := hP
          have hD : va_D A (((xoT xo h hp hh sl) ++ ((paT ca hp ap (g, nI np)) ++ ((hiT ca hh ka (nI (recN n)) (recR n rf)) ++ (stT ca kj bj S)))) ++ ((stT ca h a S) ++ (O ++ Z))) := hD
          refine goV (va_runV (As := [.int x]) (rest := []) ⟨hx, hb, hml, hown, hts⟩ (CtV.use (c_X3_letPass l G ca h a S x n6 n12 h6 h12) H.size) (cwV 1 hts gX4_pass_X3_letPass rfl rfl rfl (by decide +kernel) ⟨Nat.le_of_ble_eq_true rfl, Nat.le_of_ble_eq_true rfl⟩) (pcW_V hev (P_left (P_right hP)) (D_left (D_right hD)) (q0 := 0) rfl rfl rfl) rfl rfl hl.1 rfl (lv_room (Nat.le_of_ble_eq_true rfl)) dX4_pass_51 ⟨Nat.zero_le _, Nat.zero_le _⟩) hP hD hS hA stF (fun H locs hP hD hS => ?_)
          have hP : va_P G vwCl ((xoT xo h hp hh sl) ++ ((paT ca hp ap (g, nI np)) ++ ((hiT ca hh ka (nI (recN n)) (recR n rf)) ++ ((stT ca kj bj S) ++ ((stT ca h a (lpS x S n6 n12)) ++ (O ++ Z)))))) H := hP
          have hD : va_D A ((xoT xo h hp hh sl) ++ ((paT ca hp ap (g, nI np)) ++ ((hiT ca hh ka (nI (recN n)) (recR n rf)) ++ ((stT ca kj bj S) ++ ((stT ca h a (lpS x S n6 n12)) ++ (O ++ Z)))))) := hD
          refine lv_aload_n hx hb dX4_pass_54 rfl (lv_at hl 0 rfl) ?_
          refine va_get (D := G) (ci := 4) (v := .ref h) (C := RX4) (T := TX4) (N := 4) hx hb hts in_wsX40 hown hev.1 hP 0 rfl rfl 0 (by decide) (hts (.fieldLink RX4 10 "PuddleMinistries" "street" "LPuddleMinistries$Street;") (List.mem_of_getElem? (i := 1) rfl)) (fun _ h9 => h9) rfl dX4_pass_55 ?_
          refine va_get (D := G) (ci := 3) (v := .ref (a 2)) (C := RX3) (T := TX3) (N := 15) hx hb hts in_wsX30 hown hev.1 hP 15 rfl rfl 2 (by decide) (hts (.fieldLink RX4 65 "PuddleMinistries$Street" "waters" "[I") (List.mem_of_getElem? (i := 4) rfl)) (fun _ h9 => h9) rfl dX4_pass_58 ?_
          refine goIw (va_runS (As := [.ref (a 2)]) (rest := []) ⟨hx, hb, hml, hown, hts⟩ (CtI.use (c_X4_sum l G ca ((xoT xo h hp hh sl) ++ ((paT ca hp ap (g, nI np)) ++ ((hiT ca hh ka (nI (recN n)) (recR n rf)) ++ ((stT ca kj bj S) ++ ((stT ca h a (lpS x S n6 n12)) ++ (O ++ Z)))))) 18 (a 2) 12 (s_wa (lpS x S n6 n12)) rfl (by decide)) H.size) (va_cwS 1 hts gX4_pass_X4_sum rfl rfl rfl (by decide +kernel) ⟨Nat.le_of_ble_eq_true rfl, Nat.le_of_ble_eq_true rfl⟩) (pcW_S hev hP hD) rfl rfl hl.1 rfl (lv_room (Nat.le_of_ble_eq_true rfl)) dX4_pass_61 ⟨Nat.zero_le _, Nat.zero_le _⟩) hD hS hA rfl (fun H locs hP hD hS => ?_)
          exact hret _ _ _ _ hP hS dX4_pass_64
        · skip
          exact absurd ⟨by assumption, Int32.not_lt.mp c_4⟩ hd
    · skip
      exact absurd hx2 c_2
def rdS (S : SS) (g : Nat → Int32) (n6 n12 : Nat) : Nat → SS | 0 => S | i + 1 => lpS (wtC (g i)) (rdS S g n6 n12 i) n6 n12
set_option maxHeartbeats 4000000 in
set_option maxRecDepth 100000 in
theorem c_X4_read_bad (l : Launch) (G : va_G) (ca : Nat → ClassId) (xo sl : Nat) (hp ap : Nat) (g : Nat → Int32) (np : Nat) (hh ka : Nat) (n : Nat) (rf : Nat → Option Nat) (kj : Nat) (bj : Nat → Nat) (T : SS) (h : Nat) (a : Nat → Nat) (S : SS) (O : va_W) (Z : va_W) (hnp : np ≤ 60) (hf : ¬ ffG g np np 0 = (-6)) : CtI l yX4_read wsX4_read ({ frames := 2, cells := 0, slots := 0, locals := 43 }) [.ref xo] G ca ((xoT xo h hp hh sl) ++ ((paT ca hp ap (g, nI np)) ++ ((hiT ca hh ka (nI n) rf) ++ ((stT ca kj bj T) ++ ((stT ca h a S) ++ (O ++ Z)))))) ((xoT xo h hp hh sl) ++ ((paT ca hp ap (g, nI np)) ++ ((hiT ca hh ka (nI n) rf) ++ ((stT ca kj bj T) ++ ((stT ca h a S) ++ (O ++ Z)))))) (-3) := by
  refine CtI.ofW (cc := cX4_read) (maxL := 2) (rt := .int) (by decide) rfl (Nat.le_of_ble_eq_true rfl) rfl ?_
  intro pr en s m be me c A ls Q H hx hb hml hts hown hev hP hD hA hS hl hret
  have hown : s.vm.findClass RX4 = some m.cls := hown
  have hl : lv_has ls 2 [(0, .ref xo)] := hl
  have in_wsX40 : ∀ w ∈ wsX40, w ∈ wsX4_read := fun _ h => List.mem_cons_of_mem _ (List.mem_append_left _ (List.mem_append_left _ (List.mem_append_left _ (List.mem_append_right _ h))))
  have in_wsX30 : ∀ w ∈ wsX30, w ∈ wsX4_read := fun _ h => List.mem_cons_of_mem _ (List.mem_append_left _ (List.mem_append_left _ (List.mem_append_right _ h)))
  have in_wsX10 : ∀ w ∈ wsX10, w ∈ wsX4_read := fun _ h => List.mem_cons_of_mem _ (List.mem_append_left _ (List.mem_append_right _ h))
  have in_wsX00 : ∀ w ∈ wsX00, w ∈ wsX4_read := fun _ h => List.mem_cons_of_mem _ (List.mem_append_right _ h)
  refine lv_aload_n hx hb dX4_read_0 rfl (lv_at hl 0 rfl) ?_
  refine va_get (D := G) (ci := 4) (v := .ref hp) (C := RX4) (T := TX4) (N := 4) hx hb hts in_wsX40 hown hev.1 hP 0 rfl rfl 1 (by decide) (hts (.fieldLink RX4 19 "PuddleMinistries" "pad" "LPuddleMinistries$Pad;") (List.mem_of_getElem? (i := 1) rfl)) (fun _ h9 => h9) rfl dX4_read_1 ?_
  have hP : va_P G vwCl ((xoT xo h hp hh sl) ++ ((paT ca hp ap (g, nI np)) ++ ((hiT ca hh ka (nI n) rf) ++ ((stT ca kj bj T) ++ ((stT ca h a S) ++ (O ++ Z)))))) H := hP
  have hD : va_D A ((xoT xo h hp hh sl) ++ ((paT ca hp ap (g, nI np)) ++ ((hiT ca hh ka (nI n) rf) ++ ((stT ca kj bj T) ++ ((stT ca h a S) ++ (O ++ Z)))))) := hD
  refine goI (va_runV (As := []) (rest := []) ⟨hx, hb, hml, hown, hts⟩ (CtI.use (c_X1_findFault l G ca hp ap g np (by omega)) H.size) (cwV 0 hts gX4_read_X1_findFault rfl rfl rfl (by decide +kernel) ⟨Nat.le_of_ble_eq_true rfl, Nat.le_of_ble_eq_true rfl⟩) (pcW_V hev (P_left (P_right hP)) (D_left (D_right hD)) (q0 := 0) rfl rfl rfl) rfl rfl hl.1 rfl (lv_room (Nat.le_of_ble_eq_true rfl)) dX4_read_4 ⟨Nat.zero_le _, Nat.zero_le _⟩) hP hD hS hA paF (fun H locs hP hD hS => ?_)
  have hP : va_P G vwCl ((xoT xo h hp hh sl) ++ ((paT ca hp ap (g, nI np)) ++ ((hiT ca hh ka (nI n) rf) ++ ((stT ca kj bj T) ++ ((stT ca h a S) ++ (O ++ Z)))))) H := hP
  have hD : va_D A ((xoT xo h hp hh sl) ++ ((paT ca hp ap (g, nI np)) ++ ((hiT ca hh ka (nI n) rf) ++ ((stT ca kj bj T) ++ ((stT ca h a S) ++ (O ++ Z)))))) := hD
  refine lv_bipush (v := (-6)) hx hb dX4_read_7 (by decide) ?_
  refine lv_icmp_eq (tgt := 15) hx hb dX4_read_9 (by decide) (fun c_1 => ?_) (fun c_1 => ?_)
  · skip
    exact absurd c_1 hf
  · skip
    refine lv_bipush (v := (-3)) hx hb dX4_read_12 (by decide) ?_
    exact hret _ _ _ _ hP hS dX4_read_14
set_option maxHeartbeats 4000000 in
set_option maxRecDepth 100000 in
theorem c_X4_read_many (l : Launch) (G : va_G) (ca : Nat → ClassId) (xo sl : Nat) (hp ap : Nat) (g : Nat → Int32) (np : Nat) (hh ka : Nat) (n : Nat) (rf : Nat → Option Nat) (kj : Nat) (bj : Nat → Nat) (T : SS) (h : Nat) (a : Nat → Nat) (S : SS) (O : va_W) (Z : va_W) (hnp : np ≤ 60) (hf : ffG g np np 0 = (-6)) (hd : ¬ s_dy S + dyL g np ≤ 9999) : CtI l yX4_read wsX4_read ({ frames := 3, cells := 0, slots := 0, locals := 64 }) [.ref xo] G ca ((xoT xo h hp hh sl) ++ ((paT ca hp ap (g, nI np)) ++ ((hiT ca hh ka (nI n) rf) ++ ((stT ca kj bj T) ++ ((stT ca h a S) ++ (O ++ Z)))))) ((xoT xo h hp hh sl) ++ ((paT ca hp ap (g, nI np)) ++ ((hiT ca hh ka (nI n) rf) ++ ((stT ca kj bj T) ++ ((stT ca h a S) ++ (O ++ Z)))))) (-4) := by
  refine CtI.ofW (cc := cX4_read) (maxL := 2) (rt := .int) (by decide) rfl (Nat.le_of_ble_eq_true rfl) rfl ?_
  intro pr en s m be me c A ls Q H hx hb hml hts hown hev hP hD hA hS hl hret
  have hown : s.vm.findClass RX4 = some m.cls := hown
  have hl : lv_has ls 2 [(0, .ref xo)] := hl
  have in_wsX40 : ∀ w ∈ wsX40, w ∈ wsX4_read := fun _ h => List.mem_cons_of_mem _ (List.mem_append_left _ (List.mem_append_left _ (List.mem_append_left _ (List.mem_append_right _ h))))
  have in_wsX30 : ∀ w ∈ wsX30, w ∈ wsX4_read := fun _ h => List.mem_cons_of_mem _ (List.mem_append_left _ (List.mem_append_left _ (List.mem_append_right _ h)))
  have in_wsX10 : ∀ w ∈ wsX10, w ∈ wsX4_read := fun _ h => List.mem_cons_of_mem _ (List.mem_append_left _ (List.mem_append_right _ h))
  have in_wsX00 : ∀ w ∈ wsX00, w ∈ wsX4_read := fun _ h => List.mem_cons_of_mem _ (List.mem_append_right _ h)
  refine lv_aload_n hx hb dX4_read_0 rfl (lv_at hl 0 rfl) ?_
  refine va_get (D := G) (ci := 4) (v := .ref hp) (C := RX4) (T := TX4) (N := 4) hx hb hts in_wsX40 hown hev.1 hP 0 rfl rfl 1 (by decide) (hts (.fieldLink RX4 19 "PuddleMinistries" "pad" "LPuddleMinistries$Pad;") (List.mem_of_getElem? (i := 1) rfl)) (fun _ h9 => h9) rfl dX4_read_1 ?_
  have hP : va_P G vwCl ((xoT xo h hp hh sl) ++ ((paT ca hp ap (g, nI np)) ++ ((hiT ca hh ka (nI n) rf) ++ ((stT ca kj bj T) ++ ((stT ca h a S) ++ (O ++ Z)))))) H := hP
  have hD : va_D A ((xoT xo h hp hh sl) ++ ((paT ca hp ap (g, nI np)) ++ ((hiT ca hh ka (nI n) rf) ++ ((stT ca kj bj T) ++ ((stT ca h a S) ++ (O ++ Z)))))) := hD
  refine goI (va_runV (As := []) (rest := []) ⟨hx, hb, hml, hown, hts⟩ (CtI.use (c_X1_findFault l G ca hp ap g np (by omega)) H.size) (cwV 0 hts gX4_read_X1_findFault rfl rfl rfl (by decide +kernel) ⟨Nat.le_of_ble_eq_true rfl, Nat.le_of_ble_eq_true rfl⟩) (pcW_V hev (P_left (P_right hP)) (D_left (D_right hD)) (q0 := 0) rfl rfl rfl) rfl rfl hl.1 rfl (lv_room (Nat.le_of_ble_eq_true rfl)) dX4_read_4 ⟨Nat.zero_le _, Nat.zero_le _⟩) hP hD hS hA paF (fun H locs hP hD hS => ?_)
  have hP : va_P G vwCl ((xoT xo h hp hh sl) ++ ((paT ca hp ap (g, nI np)) ++ ((hiT ca hh ka (nI n) rf) ++ ((stT ca kj bj T) ++ ((stT ca h a S) ++ (O ++ Z)))))) H := hP
  have hD : va_D A ((xoT xo h hp hh sl) ++ ((paT ca hp ap (g, nI np)) ++ ((hiT ca hh ka (nI n) rf) ++ ((stT ca kj bj T) ++ ((stT ca h a S) ++ (O ++ Z)))))) := hD
  refine lv_bipush (v := (-6)) hx hb dX4_read_7 (by decide) ?_
  refine lv_icmp_eq (tgt := 15) hx hb dX4_read_9 (by decide) (fun c_1 => ?_) (fun c_1 => ?_)
  · skip
    refine lv_aload_n hx hb dX4_read_15 rfl (lv_at hl 0 rfl) ?_
    refine va_get (D := G) (ci := 4) (v := .ref h) (C := RX4) (T := TX4) (N := 4) hx hb hts in_wsX40 hown hev.1 hP 0 rfl rfl 0 (by decide) (hts (.fieldLink RX4 10 "PuddleMinistries" "street" "LPuddleMinistries$Street;") (List.mem_of_getElem? (i := 2) rfl)) (fun _ h9 => h9) rfl dX4_read_16 ?_
    refine va_get (D := G) (ci := 3) (v := .int (s_dy S)) (C := RX3) (T := TX3) (N := 15) hx hb hts in_wsX30 hown hev.1 hP 15 rfl rfl 11 (by decide) (hts (.fieldLink RX4 110 "PuddleMinistries$Street" "days" "I") (List.mem_of_getElem? (i := 3) rfl)) (fun _ h9 => h9) rfl dX4_read_19 ?_
    refine lv_aload_n hx hb dX4_read_22 rfl (lv_at hl 0 rfl) ?_
    refine va_get (D := G) (ci := 4) (v := .ref hp) (C := RX4) (T := TX4) (N := 4) hx hb hts in_wsX40 hown hev.1 hP 0 rfl rfl 1 (by decide) (hts (.fieldLink RX4 19 "PuddleMinistries" "pad" "LPuddleMinistries$Pad;") (List.mem_of_getElem? (i := 1) rfl)) (fun _ h9 => h9) rfl dX4_read_23 ?_
    have hP : va_P G vwCl ((xoT xo h hp hh sl) ++ ((paT ca hp ap (g, nI np)) ++ ((hiT ca hh ka (nI n) rf) ++ ((stT ca kj bj T) ++ ((stT ca h a S) ++ (O ++ Z)))))) H := hP
    have hD : va_D A ((xoT xo h hp hh sl) ++ ((paT ca hp ap (g, nI np)) ++ ((hiT ca hh ka (nI n) rf) ++ ((stT ca kj bj T) ++ ((stT ca h a S) ++ (O ++ Z)))))) := hD
    refine goI (va_runV (As := []) (rest := [.int (s_dy S)]) ⟨hx, hb, hml, hown, hts⟩ (CtI.use (c_X1_daysTold l G ca hp ap g np (by omega)) H.size) (cwV 0 hts gX4_read_X1_daysTold rfl rfl rfl (by decide +kernel) ⟨Nat.le_of_ble_eq_true rfl, Nat.le_of_ble_eq_true rfl⟩) (pcW_V hev (P_left (P_right hP)) (D_left (D_right hD)) (q0 := 0) rfl rfl rfl) rfl rfl hl.1 rfl (lv_room (Nat.le_of_ble_eq_true rfl)) dX4_read_26 ⟨Nat.zero_le _, Nat.zero_le _⟩) hP hD hS hA paF (fun H locs hP hD hS => ?_)
    have hP : va_P G vwCl ((xoT xo h hp hh sl) ++ ((paT ca hp ap (g, nI np)) ++ ((hiT ca hh ka (nI n) rf) ++ ((stT ca kj bj T) ++ ((stT ca h a S) ++ (O ++ Z)))))) H := hP
    have hD : va_D A ((xoT xo h hp hh sl) ++ ((paT ca hp ap (g, nI np)) ++ ((hiT ca hh ka (nI n) rf) ++ ((stT ca kj bj T) ++ ((stT ca h a S) ++ (O ++ Z)))))) := hD
    refine lv_iadd hx hb dX4_read_29 ?_
    refine lv_sipush (v := 9999) hx hb dX4_read_30 (by decide) ?_
    refine lv_icmp_le (tgt := 39) hx hb dX4_read_33 (by decide) (fun c_2 => ?_) (fun c_2 => ?_)
    · skip
      exact absurd c_2 hd
    · skip
      refine lv_bipush (v := (-4)) hx hb dX4_read_36 (by decide) ?_
      exact hret _ _ _ _ hP hS dX4_read_38
  · skip
    exact absurd hf c_1
set_option maxHeartbeats 4000000 in
set_option maxRecDepth 100000 in
theorem c_X4_read_ok (l : Launch) (G : va_G) (ca : Nat → ClassId) (xo sl : Nat) (hp ap : Nat) (g : Nat → Int32) (np : Nat) (hh ka : Nat) (n : Nat) (rf : Nat → Option Nat) (kj : Nat) (bj : Nat → Nat) (T : SS) (h : Nat) (a : Nat → Nat) (S : SS) (O : va_W) (Z : va_W) (n6 : Nat) (n12 : Nat) (hn6 : n ≤ 6) (hkj : recT n rf = some kj) (hob : ∀ i, i < 6 → ∃ (v x : Nat) (y : List Value), rf i = some v ∧ (hiT ca hh ka (nI n) rf ++ (stT ca kj bj T ++ (stT ca h a S ++ O)))[x]? = some (v, .inr (3, y))) (hnp : np ≤ 60) (hf : ffG g np np 0 = (-6)) (hd : s_dy S + dyL g np ≤ 9999) (h6 : n6 = 6) (h12 : n12 = 12) : CtI l yX4_read wsX4_read ({ frames := 4, cells := 0, slots := 0, locals := 87 }) [.ref xo] G ca ((xoT xo h hp hh sl) ++ ((paT ca hp ap (g, nI np)) ++ ((hiT ca hh ka (nI n) rf) ++ ((stT ca kj bj T) ++ ((stT ca h a S) ++ (O ++ Z)))))) ((xoT xo h hp hh sl) ++ ((paT ca hp ap (g, nI 0)) ++ ((hiT ca hh ka (nI (recN n)) (recR n rf)) ++ ((stT ca kj bj S) ++ ((stT ca h a (rdS S g n6 n12 np)) ++ (O ++ Z)))))) (smD (s_wa (rdS S g n6 n12 np)) 12) := by
  refine CtI.ofW (cc := cX4_read) (maxL := 2) (rt := .int) (by decide) rfl (Nat.le_of_ble_eq_true rfl) rfl ?_
  intro pr en s m be me c A ls Q H hx hb hml hts hown hev hP hD hA hS hl hret
  have hown : s.vm.findClass RX4 = some m.cls := hown
  have hl : lv_has ls 2 [(0, .ref xo)] := hl
  have in_wsX40 : ∀ w ∈ wsX40, w ∈ wsX4_read := fun _ h => List.mem_cons_of_mem _ (List.mem_append_left _ (List.mem_append_left _ (List.mem_append_left _ (List.mem_append_right _ h))))
  have in_wsX30 : ∀ w ∈ wsX30, w ∈ wsX4_read := fun _ h => List.mem_cons_of_mem _ (List.mem_append_left _ (List.mem_append_left _ (List.mem_append_right _ h)))
  have in_wsX10 : ∀ w ∈ wsX10, w ∈ wsX4_read := fun _ h => List.mem_cons_of_mem _ (List.mem_append_left _ (List.mem_append_right _ h))
  have in_wsX00 : ∀ w ∈ wsX00, w ∈ wsX4_read := fun _ h => List.mem_cons_of_mem _ (List.mem_append_right _ h)
  refine lv_aload_n hx hb dX4_read_0 rfl (lv_at hl 0 rfl) ?_
  refine va_get (D := G) (ci := 4) (v := .ref hp) (C := RX4) (T := TX4) (N := 4) hx hb hts in_wsX40 hown hev.1 hP 0 rfl rfl 1 (by decide) (hts (.fieldLink RX4 19 "PuddleMinistries" "pad" "LPuddleMinistries$Pad;") (List.mem_of_getElem? (i := 1) rfl)) (fun _ h9 => h9) rfl dX4_read_1 ?_
  have hP : va_P G vwCl ((xoT xo h hp hh sl) ++ ((paT ca hp ap (g, nI np)) ++ ((hiT ca hh ka (nI n) rf) ++ ((stT ca kj bj T) ++ ((stT ca h a S) ++ (O ++ Z)))))) H := hP
  have hD : va_D A ((xoT xo h hp hh sl) ++ ((paT ca hp ap (g, nI np)) ++ ((hiT ca hh ka (nI n) rf) ++ ((stT ca kj bj T) ++ ((stT ca h a S) ++ (O ++ Z)))))) := hD
  refine goI (va_runV (As := []) (rest := []) ⟨hx, hb, hml, hown, hts⟩ (CtI.use (c_X1_findFault l G ca hp ap g np (by omega)) H.size) (cwV 0 hts gX4_read_X1_findFault rfl rfl rfl (by decide +kernel) ⟨Nat.le_of_ble_eq_true rfl, Nat.le_of_ble_eq_true rfl⟩) (pcW_V hev (P_left (P_right hP)) (D_left (D_right hD)) (q0 := 0) rfl rfl rfl) rfl rfl hl.1 rfl (lv_room (Nat.le_of_ble_eq_true rfl)) dX4_read_4 ⟨Nat.zero_le _, Nat.zero_le _⟩) hP hD hS hA paF (fun H locs hP hD hS => ?_)
  have hP : va_P G vwCl ((xoT xo h hp hh sl) ++ ((paT ca hp ap (g, nI np)) ++ ((hiT ca hh ka (nI n) rf) ++ ((stT ca kj bj T) ++ ((stT ca h a S) ++ (O ++ Z)))))) H := hP
  have hD : va_D A ((xoT xo h hp hh sl) ++ ((paT ca hp ap (g, nI np)) ++ ((hiT ca hh ka (nI n) rf) ++ ((stT ca kj bj T) ++ ((stT ca h a S) ++ (O ++ Z)))))) := hD
  refine lv_bipush (v := (-6)) hx hb dX4_read_7 (by decide) ?_
  refine lv_icmp_eq (tgt := 15) hx hb dX4_read_9 (by decide) (fun c_1 => ?_) (fun c_1 => ?_)
  · skip
    refine lv_aload_n hx hb dX4_read_15 rfl (lv_at hl 0 rfl) ?_
    refine va_get (D := G) (ci := 4) (v := .ref h) (C := RX4) (T := TX4) (N := 4) hx hb hts in_wsX40 hown hev.1 hP 0 rfl rfl 0 (by decide) (hts (.fieldLink RX4 10 "PuddleMinistries" "street" "LPuddleMinistries$Street;") (List.mem_of_getElem? (i := 2) rfl)) (fun _ h9 => h9) rfl dX4_read_16 ?_
    refine va_get (D := G) (ci := 3) (v := .int (s_dy S)) (C := RX3) (T := TX3) (N := 15) hx hb hts in_wsX30 hown hev.1 hP 15 rfl rfl 11 (by decide) (hts (.fieldLink RX4 110 "PuddleMinistries$Street" "days" "I") (List.mem_of_getElem? (i := 3) rfl)) (fun _ h9 => h9) rfl dX4_read_19 ?_
    refine lv_aload_n hx hb dX4_read_22 rfl (lv_at hl 0 rfl) ?_
    refine va_get (D := G) (ci := 4) (v := .ref hp) (C := RX4) (T := TX4) (N := 4) hx hb hts in_wsX40 hown hev.1 hP 0 rfl rfl 1 (by decide) (hts (.fieldLink RX4 19 "PuddleMinistries" "pad" "LPuddleMinistries$Pad;") (List.mem_of_getElem? (i := 1) rfl)) (fun _ h9 => h9) rfl dX4_read_23 ?_
    have hP : va_P G vwCl ((xoT xo h hp hh sl) ++ ((paT ca hp ap (g, nI np)) ++ ((hiT ca hh ka (nI n) rf) ++ ((stT ca kj bj T) ++ ((stT ca h a S) ++ (O ++ Z)))))) H := hP
    have hD : va_D A ((xoT xo h hp hh sl) ++ ((paT ca hp ap (g, nI np)) ++ ((hiT ca hh ka (nI n) rf) ++ ((stT ca kj bj T) ++ ((stT ca h a S) ++ (O ++ Z)))))) := hD
    refine goI (va_runV (As := []) (rest := [.int (s_dy S)]) ⟨hx, hb, hml, hown, hts⟩ (CtI.use (c_X1_daysTold l G ca hp ap g np (by omega)) H.size) (cwV 0 hts gX4_read_X1_daysTold rfl rfl rfl (by decide +kernel) ⟨Nat.le_of_ble_eq_true rfl, Nat.le_of_ble_eq_true rfl⟩) (pcW_V hev (P_left (P_right hP)) (D_left (D_right hD)) (q0 := 0) rfl rfl rfl) rfl rfl hl.1 rfl (lv_room (Nat.le_of_ble_eq_true rfl)) dX4_read_26 ⟨Nat.zero_le _, Nat.zero_le _⟩) hP hD hS hA paF (fun H locs hP hD hS => ?_)
    have hP : va_P G vwCl ((xoT xo h hp hh sl) ++ ((paT ca hp ap (g, nI np)) ++ ((hiT ca hh ka (nI n) rf) ++ ((stT ca kj bj T) ++ ((stT ca h a S) ++ (O ++ Z)))))) H := hP
    have hD : va_D A ((xoT xo h hp hh sl) ++ ((paT ca hp ap (g, nI np)) ++ ((hiT ca hh ka (nI n) rf) ++ ((stT ca kj bj T) ++ ((stT ca h a S) ++ (O ++ Z)))))) := hD
    refine lv_iadd hx hb dX4_read_29 ?_
    refine lv_sipush (v := 9999) hx hb dX4_read_30 (by decide) ?_
    refine lv_icmp_le (tgt := 39) hx hb dX4_read_33 (by decide) (fun c_2 => ?_) (fun c_2 => ?_)
    · skip
      refine lv_aload_n hx hb dX4_read_39 rfl (lv_at hl 0 rfl) ?_
      refine va_get (D := G) (ci := 4) (v := .ref hh) (C := RX4) (T := TX4) (N := 4) hx hb hts in_wsX40 hown hev.1 hP 0 rfl rfl 2 (by decide) (hts (.fieldLink RX4 26 "PuddleMinistries" "history" "LPuddleMinistries$History;") (List.mem_of_getElem? (i := 4) rfl)) (fun _ h9 => h9) rfl dX4_read_40 ?_
      refine lv_aload_n hx hb dX4_read_43 rfl (lv_at hl 0 rfl) ?_
      refine va_get (D := G) (ci := 4) (v := .ref h) (C := RX4) (T := TX4) (N := 4) hx hb hts in_wsX40 hown hev.1 hP 0 rfl rfl 0 (by decide) (hts (.fieldLink RX4 10 "PuddleMinistries" "street" "LPuddleMinistries$Street;") (List.mem_of_getElem? (i := 2) rfl)) (fun _ h9 => h9) rfl dX4_read_44 ?_
      have hP : va_P G vwCl (((xoT xo h hp hh sl) ++ (paT ca hp ap (g, nI np))) ++ (((hiT ca hh ka (nI n) rf) ++ ((stT ca kj bj T) ++ ((stT ca h a S) ++ O))) ++ Z)) H := hP
      have hD : va_D A (((xoT xo h hp hh sl) ++ (paT ca hp ap (g, nI np))) ++ (((hiT ca hh ka (nI n) rf) ++ ((stT ca kj bj T) ++ ((stT ca h a S) ++ O))) ++ Z)) := hD
      refine goV (va_runV (As := [.ref h]) (rest := []) ⟨hx, hb, hml, hown, hts⟩ (CtV.use (c_X0_record l G ca hh ka n rf kj bj T h a S O hn6 hkj hob) H.size) (cwV 1 hts gX4_read_X0_record rfl rfl rfl (by decide +kernel) ⟨Nat.le_of_ble_eq_true rfl, Nat.le_of_ble_eq_true rfl⟩) (pcW_V hev (P_left (P_right hP)) (D_left (D_right hD)) (q0 := 0) rfl rfl rfl) rfl rfl hl.1 rfl (lv_room (Nat.le_of_ble_eq_true rfl)) dX4_read_47 ⟨Nat.zero_le _, Nat.zero_le _⟩) hP hD hS hA (app_F hiF (app_F stF (app_F stF rfl))) (fun H locs hP hD hS => ?_)
      have hP : va_P G vwCl ((xoT xo h hp hh sl) ++ ((paT ca hp ap (g, nI np)) ++ ((hiT ca hh ka (nI (recN n)) (recR n rf)) ++ ((stT ca kj bj S) ++ ((stT ca h a S) ++ (O ++ Z)))))) H := hP
      have hD : va_D A ((xoT xo h hp hh sl) ++ ((paT ca hp ap (g, nI np)) ++ ((hiT ca hh ka (nI (recN n)) (recR n rf)) ++ ((stT ca kj bj S) ++ ((stT ca h a S) ++ (O ++ Z)))))) := hD
      refine lv_iconst (v := nI 0) hx hb dX4_read_50 (by decide) ?_
      refine lv_istore_n (lv' := [(1, .int (nI 0)), (0, .ref xo)]) hx hb dX4_read_51 rfl hl (by decide) rfl (fun ls hl => ?_)
      have loop_52 : ∀ (fu i : Nat), i + fu = np → ∀ (H : Heap) (locs : List Loc) (ls : Array Slot), va_P G vwCl ((xoT xo h hp hh sl) ++ ((paT ca hp ap (g, nI np)) ++ ((hiT ca hh ka (nI (recN n)) (recR n rf)) ++ ((stT ca kj bj S) ++ ((stT ca h a (rdS S g n6 n12 i)) ++ (O ++ Z)))))) H → va_D A ((xoT xo h hp hh sl) ++ ((paT ca hp ap (g, nI np)) ++ ((hiT ca hh ka (nI (recN n)) (recR n rf)) ++ ((stT ca kj bj S) ++ ((stT ca h a (rdS S g n6 n12 i)) ++ (O ++ Z)))))) → va_S A s.heap H locs → lv_has ls 2 [(0, .ref xo), (1, .int (nI i))] → W pr l en ({ frames := 4, cells := 0, slots := 0, locals := 87 } : Room) s m ([.ref xo] : List Value).toArray be me c H locs 0 0 Q (F0 m 52 ls []) := by
        intro fu
        induction fu with
        | zero =>
          intro i hi H locs ls hP hD hS hl
          obtain rfl : np = i := by omega
          refine lv_iload_n hx hb dX4_read_52 rfl (lv_at hl 1 rfl) ?_
          refine lv_aload_n hx hb dX4_read_53 rfl (lv_at hl 0 rfl) ?_
          refine va_get (D := G) (ci := 4) (v := .ref hp) (C := RX4) (T := TX4) (N := 4) hx hb hts in_wsX40 hown hev.1 hP 0 rfl rfl 1 (by decide) (hts (.fieldLink RX4 19 "PuddleMinistries" "pad" "LPuddleMinistries$Pad;") (List.mem_of_getElem? (i := 1) rfl)) (fun _ h9 => h9) rfl dX4_read_54 ?_
          refine va_get (D := G) (ci := 1) (v := .int (nI np)) (C := RX1) (T := TX1) (N := 2) hx hb hts in_wsX10 hown hev.1 hP 1 rfl rfl 1 (by decide) (hts (.fieldLink RX4 128 "PuddleMinistries$Pad" "length" "I") (List.mem_of_getElem? (i := 5) rfl)) (fun _ h9 => h9) rfl dX4_read_57 ?_
          refine lv_icmp_ge (tgt := 84) hx hb dX4_read_60 (by decide) (fun c_3 => ?_) (fun c_3 => ?_)
          · skip
            refine lv_aload_n hx hb dX4_read_84 rfl (lv_at hl 0 rfl) ?_
            refine va_get (D := G) (ci := 4) (v := .ref hp) (C := RX4) (T := TX4) (N := 4) hx hb hts in_wsX40 hown hev.1 hP 0 rfl rfl 1 (by decide) (hts (.fieldLink RX4 19 "PuddleMinistries" "pad" "LPuddleMinistries$Pad;") (List.mem_of_getElem? (i := 1) rfl)) (fun _ h9 => h9) rfl dX4_read_85 ?_
            refine lv_iconst (v := nI 0) hx hb dX4_read_88 (by decide) ?_
            refine va_put (D := G) (ci := 1) (v := .int (nI 0)) (ty := .int) (C := RX1) (T := TX1) (N := 2) hx hb hts in_wsX10 tyX1 tyX1_ok nmX1 hown hev.1 hP hD hS 1 rfl rfl 1 (by decide) (hts (.fieldLink RX4 128 "PuddleMinistries$Pad" "length" "I") (List.mem_of_getElem? (i := 5) rfl)) (fun _ h9 => h9) rfl (by decide +kernel) rfl rfl (Nat.le_of_ble_eq_true rfl) dX4_read_89 (fun H locs hP hD hS => ?_)
            have hP : va_P G vwCl ((xoT xo h hp hh sl) ++ ((paT ca hp ap (g, nI 0)) ++ ((hiT ca hh ka (nI (recN n)) (recR n rf)) ++ ((stT ca kj bj S) ++ ((stT ca h a (rdS S g n6 n12 np)) ++ (O ++ Z)))))) H := hP
            have hD : va_D A ((xoT xo h hp hh sl) ++ ((paT ca hp ap (g, nI 0)) ++ ((hiT ca hh ka (nI (recN n)) (recR n rf)) ++ ((stT ca kj bj S) ++ ((stT ca h a (rdS S g n6 n12 np)) ++ (O ++ Z)))))) := hD
            refine lv_aload_n hx hb dX4_read_92 rfl (lv_at hl 0 rfl) ?_
            refine va_get (D := G) (ci := 4) (v := .ref h) (C := RX4) (T := TX4) (N := 4) hx hb hts in_wsX40 hown hev.1 hP 0 rfl rfl 0 (by decide) (hts (.fieldLink RX4 10 "PuddleMinistries" "street" "LPuddleMinistries$Street;") (List.mem_of_getElem? (i := 2) rfl)) (fun _ h9 => h9) rfl dX4_read_93 ?_
            refine va_get (D := G) (ci := 3) (v := .ref (a 2)) (C := RX3) (T := TX3) (N := 15) hx hb hts in_wsX30 hown hev.1 hP 15 rfl rfl 2 (by decide) (hts (.fieldLink RX4 65 "PuddleMinistries$Street" "waters" "[I") (List.mem_of_getElem? (i := 6) rfl)) (fun _ h9 => h9) rfl dX4_read_96 ?_
            refine goIw (va_runS (As := [.ref (a 2)]) (rest := []) ⟨hx, hb, hml, hown, hts⟩ (CtI.use (c_X4_sum l G ca ((xoT xo h hp hh sl) ++ ((paT ca hp ap (g, nI 0)) ++ ((hiT ca hh ka (nI (recN n)) (recR n rf)) ++ ((stT ca kj bj S) ++ ((stT ca h a (rdS S g n6 n12 np)) ++ (O ++ Z)))))) 18 (a 2) 12 (s_wa (rdS S g n6 n12 np)) rfl (by decide)) H.size) (va_cwS 1 hts gX4_read_X4_sum rfl rfl rfl (by decide +kernel) ⟨Nat.le_of_ble_eq_true rfl, Nat.le_of_ble_eq_true rfl⟩) (pcW_S hev hP hD) rfl rfl hl.1 rfl (lv_room (Nat.le_of_ble_eq_true rfl)) dX4_read_99 ⟨Nat.zero_le _, Nat.zero_le _⟩) hD hS hA rfl (fun H locs hP hD hS => ?_)
            exact hret _ _ _ _ hP hS dX4_read_102
          · skip
            exact absurd (nI_le (by omega) (by omega)) c_3
        | succ fu ih =>
          intro i hi H locs ls hP hD hS hl
          have hlt : i < np := by omega
          refine lv_iload_n hx hb dX4_read_52 rfl (lv_at hl 1 rfl) ?_
          refine lv_aload_n hx hb dX4_read_53 rfl (lv_at hl 0 rfl) ?_
          refine va_get (D := G) (ci := 4) (v := .ref hp) (C := RX4) (T := TX4) (N := 4) hx hb hts in_wsX40 hown hev.1 hP 0 rfl rfl 1 (by decide) (hts (.fieldLink RX4 19 "PuddleMinistries" "pad" "LPuddleMinistries$Pad;") (List.mem_of_getElem? (i := 1) rfl)) (fun _ h9 => h9) rfl dX4_read_54 ?_
          refine va_get (D := G) (ci := 1) (v := .int (nI np)) (C := RX1) (T := TX1) (N := 2) hx hb hts in_wsX10 hown hev.1 hP 1 rfl rfl 1 (by decide) (hts (.fieldLink RX4 128 "PuddleMinistries$Pad" "length" "I") (List.mem_of_getElem? (i := 5) rfl)) (fun _ h9 => h9) rfl dX4_read_57 ?_
          refine lv_icmp_ge (tgt := 84) hx hb dX4_read_60 (by decide) (fun c_4 => ?_) (fun c_4 => ?_)
          · skip
            exact absurd c_4 (nI_ge (by omega) (by omega))
          · skip
            refine lv_aload_n hx hb dX4_read_63 rfl (lv_at hl 0 rfl) ?_
            refine va_get (D := G) (ci := 4) (v := .ref h) (C := RX4) (T := TX4) (N := 4) hx hb hts in_wsX40 hown hev.1 hP 0 rfl rfl 0 (by decide) (hts (.fieldLink RX4 10 "PuddleMinistries" "street" "LPuddleMinistries$Street;") (List.mem_of_getElem? (i := 2) rfl)) (fun _ h9 => h9) rfl dX4_read_64 ?_
            refine lv_aload_n hx hb dX4_read_67 rfl (lv_at hl 0 rfl) ?_
            refine va_get (D := G) (ci := 4) (v := .ref hp) (C := RX4) (T := TX4) (N := 4) hx hb hts in_wsX40 hown hev.1 hP 0 rfl rfl 1 (by decide) (hts (.fieldLink RX4 19 "PuddleMinistries" "pad" "LPuddleMinistries$Pad;") (List.mem_of_getElem? (i := 1) rfl)) (fun _ h9 => h9) rfl dX4_read_68 ?_
            refine lv_iload_n hx hb dX4_read_71 rfl (lv_at hl 1 rfl) ?_
            have hP : va_P G vwCl ((xoT xo h hp hh sl) ++ ((paT ca hp ap (g, nI np)) ++ ((hiT ca hh ka (nI (recN n)) (recR n rf)) ++ ((stT ca kj bj S) ++ ((stT ca h a (rdS S g n6 n12 i)) ++ (O ++ Z)))))) H := hP
            have hD : va_D A ((xoT xo h hp hh sl) ++ ((paT ca hp ap (g, nI np)) ++ ((hiT ca hh ka (nI (recN n)) (recR n rf)) ++ ((stT ca kj bj S) ++ ((stT ca h a (rdS S g n6 n12 i)) ++ (O ++ Z)))))) := hD
            refine goI (va_runV (As := [.int (nI i)]) (rest := [.ref h]) ⟨hx, hb, hml, hown, hts⟩ (CtI.use (c_X1_weatherAt l G ca hp ap g np i (by omega)) H.size) (cwV 1 hts gX4_read_X1_weatherAt rfl rfl rfl (by decide +kernel) ⟨Nat.le_of_ble_eq_true rfl, Nat.le_of_ble_eq_true rfl⟩) (pcW_V hev (P_left (P_right hP)) (D_left (D_right hD)) (q0 := 0) rfl rfl rfl) rfl rfl hl.1 rfl (lv_room (Nat.le_of_ble_eq_true rfl)) dX4_read_72 ⟨Nat.zero_le _, Nat.zero_le _⟩) hP hD hS hA paF (fun H locs hP hD hS => ?_)
            have hP : va_P G vwCl ((xoT xo h hp hh sl) ++ ((paT ca hp ap (g, nI np)) ++ ((hiT ca hh ka (nI (recN n)) (recR n rf)) ++ ((stT ca kj bj S) ++ ((stT ca h a (rdS S g n6 n12 i)) ++ (O ++ Z)))))) H := hP
            have hD : va_D A ((xoT xo h hp hh sl) ++ ((paT ca hp ap (g, nI np)) ++ ((hiT ca hh ka (nI (recN n)) (recR n rf)) ++ ((stT ca kj bj S) ++ ((stT ca h a (rdS S g n6 n12 i)) ++ (O ++ Z)))))) := hD
            have hP : va_P G vwCl (((xoT xo h hp hh sl) ++ ((paT ca hp ap (g, nI np)) ++ ((hiT ca hh ka (nI (recN n)) (recR n rf)) ++ (stT ca kj bj S)))) ++ ((stT ca h a (rdS S g n6 n12 i)) ++ (O ++ Z))) H := hP
            have hD : va_D A (((xoT xo h hp hh sl) ++ ((paT ca hp ap (g, nI np)) ++ ((hiT ca hh ka (nI (recN n)) (recR n rf)) ++ (stT ca kj bj S)))) ++ ((stT ca h a (rdS S g n6 n12 i)) ++ (O ++ Z))) := hD
            refine goV (va_runV (As := [.int (wtC (g i))]) (rest := []) ⟨hx, hb, hml, hown, hts⟩ (CtV.use (c_X3_letPass l G ca h a (rdS S g n6 n12 i) (wtC (g i)) n6 n12 h6 h12) H.size) (cwV 1 hts gX4_read_X3_letPass rfl rfl rfl (by decide +kernel) ⟨Nat.le_of_ble_eq_true rfl, Nat.le_of_ble_eq_true rfl⟩) (pcW_V hev (P_left (P_right hP)) (D_left (D_right hD)) (q0 := 0) rfl rfl rfl) rfl rfl hl.1 rfl (lv_room (Nat.le_of_ble_eq_true rfl)) dX4_read_75 ⟨Nat.zero_le _, Nat.zero_le _⟩) hP hD hS hA stF (fun H locs hP hD hS => ?_)
            have hP : va_P G vwCl ((xoT xo h hp hh sl) ++ ((paT ca hp ap (g, nI np)) ++ ((hiT ca hh ka (nI (recN n)) (recR n rf)) ++ ((stT ca kj bj S) ++ ((stT ca h a (lpS (wtC (g i)) (rdS S g n6 n12 i) n6 n12)) ++ (O ++ Z)))))) H := hP
            have hD : va_D A ((xoT xo h hp hh sl) ++ ((paT ca hp ap (g, nI np)) ++ ((hiT ca hh ka (nI (recN n)) (recR n rf)) ++ ((stT ca kj bj S) ++ ((stT ca h a (lpS (wtC (g i)) (rdS S g n6 n12 i) n6 n12)) ++ (O ++ Z)))))) := hD
            refine lv_iinc (v := nI (i + 1)) (lv' := [(1, .int (nI (i + 1))), (0, .ref xo)]) hx hb dX4_read_78 hl (k := 1) rfl (nI_1 _) (by decide) rfl (fun ls hl => ?_)
            refine lv_goto (tgt := 52) hx hb dX4_read_81 (by decide) ?_
            exact ih (i + 1) (by omega) _ _ _ (by rw [show (rdS S g n6 n12 (i + 1)) = (lpS (wtC (g i)) (rdS S g n6 n12 i) n6 n12) from by rfl]; exact hP) (D_of hD (app_F rfl (app_F paF (app_F hiF (app_F stF (app_F stF (app_F rfl rfl))))))) hS (lv_sub hl [1, 0] rfl)
      exact loop_52 np 0 (by omega) _ _ _ hP (D_of hD (app_F rfl (app_F paF (app_F hiF (app_F stF (app_F stF (app_F rfl rfl))))))) hS (lv_sub hl [1, 0] rfl)
    · skip
      exact absurd hd c_2
  · skip
    exact absurd hf c_1
set_option maxHeartbeats 4000000 in
set_option maxRecDepth 100000 in
theorem c_X4_puddle_out (l : Launch) (G : va_G) (ca : Nat → ClassId) (xo sl : Nat) (hp ap : Nat) (g : Nat → Int32) (np : Nat) (hh ka : Nat) (n : Nat) (rf : Nat → Option Nat) (kj : Nat) (bj : Nat → Nat) (T : SS) (h : Nat) (a : Nat → Nat) (S : SS) (O : va_W) (Z : va_W) (x : Int32) (v : Int32) (hx0 : x < 0 ∨ nI 12 ≤ x) : CtI l yX4_puddle wsX4_puddle ({ frames := 1, cells := 0, slots := 0, locals := 20 }) [.ref xo, .int x, .int v] G ca ((xoT xo h hp hh sl) ++ ((paT ca hp ap (g, nI np)) ++ ((hiT ca hh ka (nI n) rf) ++ ((stT ca kj bj T) ++ ((stT ca h a S) ++ (O ++ Z)))))) ((xoT xo h hp hh sl) ++ ((paT ca hp ap (g, nI np)) ++ ((hiT ca hh ka (nI n) rf) ++ ((stT ca kj bj T) ++ ((stT ca h a S) ++ (O ++ Z)))))) (-1) := by
  refine CtI.ofW (cc := cX4_puddle) (maxL := 3) (rt := .int) (by decide) rfl (Nat.le_of_ble_eq_true rfl) rfl ?_
  intro pr en s m be me c A ls Q H hx hb hml hts hown hev hP hD hA hS hl hret
  have hown : s.vm.findClass RX4 = some m.cls := hown
  have hl : lv_has ls 3 [(0, .ref xo), (1, .int x), (2, .int v)] := hl
  have in_wsX40 : ∀ w ∈ wsX40, w ∈ wsX4_puddle := fun _ h => List.mem_cons_of_mem _ (List.mem_append_left _ (List.mem_append_right _ h))
  have in_wsX30 : ∀ w ∈ wsX30, w ∈ wsX4_puddle := fun _ h => List.mem_cons_of_mem _ (List.mem_append_right _ h)
  refine lv_iload_n hx hb dX4_puddle_0 rfl (lv_at hl 1 rfl) ?_
  refine goI0 (va_runS (As := [.int x]) (rest := []) ⟨hx, hb, hml, hown, hts⟩ (CtI.use (c_X4_isPuddle_out l G ca x hx0) H.size) (va_cwS 1 hts gX4_puddle_X4_isPuddle rfl rfl rfl (by decide +kernel) ⟨Nat.le_of_ble_eq_true rfl, Nat.le_of_ble_eq_true rfl⟩) (pcW_S hev P_nil (D_nil (A := A))) rfl rfl hl.1 rfl (lv_room (Nat.le_of_ble_eq_true rfl)) dX4_puddle_1 ⟨Nat.zero_le _, Nat.zero_le _⟩) hP hS hA (fun H locs hP hS => ?_)
  refine lv_if_ne (tgt := 9) hx hb dX4_puddle_4 (by decide) (fun c_1 => ?_) (fun c_1 => ?_)
  · skip
    exact absurd (by decide) c_1
  · skip
    refine lv_iconst (v := (-1)) hx hb dX4_puddle_7 (by decide) ?_
    exact hret _ _ _ _ hP hS dX4_puddle_8
set_option maxHeartbeats 4000000 in
set_option maxRecDepth 100000 in
theorem c_X4_puddle_0 (l : Launch) (G : va_G) (ca : Nat → ClassId) (xo sl : Nat) (hp ap : Nat) (g : Nat → Int32) (np : Nat) (hh ka : Nat) (n : Nat) (rf : Nat → Option Nat) (kj : Nat) (bj : Nat → Nat) (T : SS) (h : Nat) (a : Nat → Nat) (S : SS) (O : va_W) (Z : va_W) (p : Nat) (hp1 : p < 12) : CtI l yX4_puddle wsX4_puddle ({ frames := 1, cells := 0, slots := 0, locals := 20 }) [.ref xo, .int (nI p), .int 0] G ca ((xoT xo h hp hh sl) ++ ((paT ca hp ap (g, nI np)) ++ ((hiT ca hh ka (nI n) rf) ++ ((stT ca kj bj T) ++ ((stT ca h a S) ++ (O ++ Z)))))) ((xoT xo h hp hh sl) ++ ((paT ca hp ap (g, nI np)) ++ ((hiT ca hh ka (nI n) rf) ++ ((stT ca kj bj T) ++ ((stT ca h a S) ++ (O ++ Z)))))) (s_br S p) := by
  refine CtI.ofW (cc := cX4_puddle) (maxL := 3) (rt := .int) (by decide) rfl (Nat.le_of_ble_eq_true rfl) rfl ?_
  intro pr en s m be me c A ls Q H hx hb hml hts hown hev hP hD hA hS hl hret
  have hown : s.vm.findClass RX4 = some m.cls := hown
  have hl : lv_has ls 3 [(0, .ref xo), (1, .int (nI p)), (2, .int 0)] := hl
  have in_wsX40 : ∀ w ∈ wsX40, w ∈ wsX4_puddle := fun _ h => List.mem_cons_of_mem _ (List.mem_append_left _ (List.mem_append_right _ h))
  have in_wsX30 : ∀ w ∈ wsX30, w ∈ wsX4_puddle := fun _ h => List.mem_cons_of_mem _ (List.mem_append_right _ h)
  refine lv_iload_n hx hb dX4_puddle_0 rfl (lv_at hl 1 rfl) ?_
  refine goI0 (va_runS (As := [.int (nI p)]) (rest := []) ⟨hx, hb, hml, hown, hts⟩ (CtI.use (c_X4_isPuddle_in l G ca p (by omega)) H.size) (va_cwS 1 hts gX4_puddle_X4_isPuddle rfl rfl rfl (by decide +kernel) ⟨Nat.le_of_ble_eq_true rfl, Nat.le_of_ble_eq_true rfl⟩) (pcW_S hev P_nil (D_nil (A := A))) rfl rfl hl.1 rfl (lv_room (Nat.le_of_ble_eq_true rfl)) dX4_puddle_1 ⟨Nat.zero_le _, Nat.zero_le _⟩) hP hS hA (fun H locs hP hS => ?_)
  refine lv_if_ne (tgt := 9) hx hb dX4_puddle_4 (by decide) (fun c_1 => ?_) (fun c_1 => ?_)
  · skip
    refine lv_iload_n hx hb dX4_puddle_9 rfl (lv_at hl 2 rfl) ?_
    refine lv_tableIn (off := 42) (tgt := 52) hx hb dX4_puddle_10 (by decide) (by decide) (by decide +kernel) (by decide) ?_
    refine lv_aload_n hx hb dX4_puddle_52 rfl (lv_at hl 0 rfl) ?_
    refine va_get (D := G) (ci := 4) (v := .ref h) (C := RX4) (T := TX4) (N := 4) hx hb hts in_wsX40 hown hev.1 hP 0 rfl rfl 0 (by decide) (hts (.fieldLink RX4 10 "PuddleMinistries" "street" "LPuddleMinistries$Street;") (List.mem_of_getElem? (i := 1) rfl)) (fun _ h9 => h9) rfl dX4_puddle_53 ?_
    refine va_get (D := G) (ci := 3) (v := .ref (a 1)) (C := RX3) (T := TX3) (N := 15) hx hb hts in_wsX30 hown hev.1 hP 15 rfl rfl 1 (by decide) (hts (.fieldLink RX4 55 "PuddleMinistries$Street" "brims" "[I") (List.mem_of_getElem? (i := 2) rfl)) (fun _ h9 => h9) rfl dX4_puddle_56 ?_
    refine lv_iload_n hx hb dX4_puddle_59 rfl (lv_at hl 1 rfl) ?_
    refine b_iald hx hb hev.1 hP 17 rfl rfl (j := p) (by omega) (by decide) dX4_puddle_60 ?_
    refine lv_eqi (y := s_br S p) (by rw []) ?_
    exact hret _ _ _ _ hP hS dX4_puddle_61
  · skip
    exact absurd c_1 (by decide)
set_option maxHeartbeats 4000000 in
set_option maxRecDepth 100000 in
theorem c_X4_puddle_1 (l : Launch) (G : va_G) (ca : Nat → ClassId) (xo sl : Nat) (hp ap : Nat) (g : Nat → Int32) (np : Nat) (hh ka : Nat) (n : Nat) (rf : Nat → Option Nat) (kj : Nat) (bj : Nat → Nat) (T : SS) (h : Nat) (a : Nat → Nat) (S : SS) (O : va_W) (Z : va_W) (p : Nat) (hp1 : p < 12) : CtI l yX4_puddle wsX4_puddle ({ frames := 1, cells := 0, slots := 0, locals := 20 }) [.ref xo, .int (nI p), .int 1] G ca ((xoT xo h hp hh sl) ++ ((paT ca hp ap (g, nI np)) ++ ((hiT ca hh ka (nI n) rf) ++ ((stT ca kj bj T) ++ ((stT ca h a S) ++ (O ++ Z)))))) ((xoT xo h hp hh sl) ++ ((paT ca hp ap (g, nI np)) ++ ((hiT ca hh ka (nI n) rf) ++ ((stT ca kj bj T) ++ ((stT ca h a S) ++ (O ++ Z)))))) (s_wa S p) := by
  refine CtI.ofW (cc := cX4_puddle) (maxL := 3) (rt := .int) (by decide) rfl (Nat.le_of_ble_eq_true rfl) rfl ?_
  intro pr en s m be me c A ls Q H hx hb hml hts hown hev hP hD hA hS hl hret
  have hown : s.vm.findClass RX4 = some m.cls := hown
  have hl : lv_has ls 3 [(0, .ref xo), (1, .int (nI p)), (2, .int 1)] := hl
  have in_wsX40 : ∀ w ∈ wsX40, w ∈ wsX4_puddle := fun _ h => List.mem_cons_of_mem _ (List.mem_append_left _ (List.mem_append_right _ h))
  have in_wsX30 : ∀ w ∈ wsX30, w ∈ wsX4_puddle := fun _ h => List.mem_cons_of_mem _ (List.mem_append_right _ h)
  refine lv_iload_n hx hb dX4_puddle_0 rfl (lv_at hl 1 rfl) ?_
  refine goI0 (va_runS (As := [.int (nI p)]) (rest := []) ⟨hx, hb, hml, hown, hts⟩ (CtI.use (c_X4_isPuddle_in l G ca p (by omega)) H.size) (va_cwS 1 hts gX4_puddle_X4_isPuddle rfl rfl rfl (by decide +kernel) ⟨Nat.le_of_ble_eq_true rfl, Nat.le_of_ble_eq_true rfl⟩) (pcW_S hev P_nil (D_nil (A := A))) rfl rfl hl.1 rfl (lv_room (Nat.le_of_ble_eq_true rfl)) dX4_puddle_1 ⟨Nat.zero_le _, Nat.zero_le _⟩) hP hS hA (fun H locs hP hS => ?_)
  refine lv_if_ne (tgt := 9) hx hb dX4_puddle_4 (by decide) (fun c_1 => ?_) (fun c_1 => ?_)
  · skip
    refine lv_iload_n hx hb dX4_puddle_9 rfl (lv_at hl 2 rfl) ?_
    refine lv_tableIn (off := 52) (tgt := 62) hx hb dX4_puddle_10 (by decide) (by decide) (by decide +kernel) (by decide) ?_
    refine lv_aload_n hx hb dX4_puddle_62 rfl (lv_at hl 0 rfl) ?_
    refine va_get (D := G) (ci := 4) (v := .ref h) (C := RX4) (T := TX4) (N := 4) hx hb hts in_wsX40 hown hev.1 hP 0 rfl rfl 0 (by decide) (hts (.fieldLink RX4 10 "PuddleMinistries" "street" "LPuddleMinistries$Street;") (List.mem_of_getElem? (i := 1) rfl)) (fun _ h9 => h9) rfl dX4_puddle_63 ?_
    refine va_get (D := G) (ci := 3) (v := .ref (a 2)) (C := RX3) (T := TX3) (N := 15) hx hb hts in_wsX30 hown hev.1 hP 15 rfl rfl 2 (by decide) (hts (.fieldLink RX4 65 "PuddleMinistries$Street" "waters" "[I") (List.mem_of_getElem? (i := 3) rfl)) (fun _ h9 => h9) rfl dX4_puddle_66 ?_
    refine lv_iload_n hx hb dX4_puddle_69 rfl (lv_at hl 1 rfl) ?_
    refine b_iald hx hb hev.1 hP 18 rfl rfl (j := p) (by omega) (by decide) dX4_puddle_70 ?_
    refine lv_eqi (y := s_wa S p) (by rw []) ?_
    exact hret _ _ _ _ hP hS dX4_puddle_71
  · skip
    exact absurd c_1 (by decide)
set_option maxHeartbeats 4000000 in
set_option maxRecDepth 100000 in
theorem c_X4_puddle_2 (l : Launch) (G : va_G) (ca : Nat → ClassId) (xo sl : Nat) (hp ap : Nat) (g : Nat → Int32) (np : Nat) (hh ka : Nat) (n : Nat) (rf : Nat → Option Nat) (kj : Nat) (bj : Nat → Nat) (T : SS) (h : Nat) (a : Nat → Nat) (S : SS) (O : va_W) (Z : va_W) (p : Nat) (hp1 : p < 12) : CtI l yX4_puddle wsX4_puddle ({ frames := 1, cells := 0, slots := 0, locals := 21 }) [.ref xo, .int (nI p), .int 2] G ca ((xoT xo h hp hh sl) ++ ((paT ca hp ap (g, nI np)) ++ ((hiT ca hh ka (nI n) rf) ++ ((stT ca kj bj T) ++ ((stT ca h a S) ++ (O ++ Z)))))) ((xoT xo h hp hh sl) ++ ((paT ca hp ap (g, nI np)) ++ ((hiT ca hh ka (nI n) rf) ++ ((stT ca kj bj T) ++ ((stT ca h a S) ++ (O ++ Z)))))) (s_wa S p / 5) := by
  refine CtI.ofW (cc := cX4_puddle) (maxL := 3) (rt := .int) (by decide) rfl (Nat.le_of_ble_eq_true rfl) rfl ?_
  intro pr en s m be me c A ls Q H hx hb hml hts hown hev hP hD hA hS hl hret
  have hown : s.vm.findClass RX4 = some m.cls := hown
  have hl : lv_has ls 3 [(0, .ref xo), (1, .int (nI p)), (2, .int 2)] := hl
  have in_wsX40 : ∀ w ∈ wsX40, w ∈ wsX4_puddle := fun _ h => List.mem_cons_of_mem _ (List.mem_append_left _ (List.mem_append_right _ h))
  have in_wsX30 : ∀ w ∈ wsX30, w ∈ wsX4_puddle := fun _ h => List.mem_cons_of_mem _ (List.mem_append_right _ h)
  refine lv_iload_n hx hb dX4_puddle_0 rfl (lv_at hl 1 rfl) ?_
  refine goI0 (va_runS (As := [.int (nI p)]) (rest := []) ⟨hx, hb, hml, hown, hts⟩ (CtI.use (c_X4_isPuddle_in l G ca p (by omega)) H.size) (va_cwS 1 hts gX4_puddle_X4_isPuddle rfl rfl rfl (by decide +kernel) ⟨Nat.le_of_ble_eq_true rfl, Nat.le_of_ble_eq_true rfl⟩) (pcW_S hev P_nil (D_nil (A := A))) rfl rfl hl.1 rfl (lv_room (Nat.le_of_ble_eq_true rfl)) dX4_puddle_1 ⟨Nat.zero_le _, Nat.zero_le _⟩) hP hS hA (fun H locs hP hS => ?_)
  refine lv_if_ne (tgt := 9) hx hb dX4_puddle_4 (by decide) (fun c_1 => ?_) (fun c_1 => ?_)
  · skip
    refine lv_iload_n hx hb dX4_puddle_9 rfl (lv_at hl 2 rfl) ?_
    refine lv_tableIn (off := 62) (tgt := 72) hx hb dX4_puddle_10 (by decide) (by decide) (by decide +kernel) (by decide) ?_
    refine lv_aload_n hx hb dX4_puddle_72 rfl (lv_at hl 0 rfl) ?_
    refine va_get (D := G) (ci := 4) (v := .ref h) (C := RX4) (T := TX4) (N := 4) hx hb hts in_wsX40 hown hev.1 hP 0 rfl rfl 0 (by decide) (hts (.fieldLink RX4 10 "PuddleMinistries" "street" "LPuddleMinistries$Street;") (List.mem_of_getElem? (i := 1) rfl)) (fun _ h9 => h9) rfl dX4_puddle_73 ?_
    refine lv_iload_n hx hb dX4_puddle_76 rfl (lv_at hl 1 rfl) ?_
    have hP : va_P G vwCl (((xoT xo h hp hh sl) ++ ((paT ca hp ap (g, nI np)) ++ ((hiT ca hh ka (nI n) rf) ++ (stT ca kj bj T)))) ++ ((stT ca h a S) ++ (O ++ Z))) H := hP
    have hD : va_D A (((xoT xo h hp hh sl) ++ ((paT ca hp ap (g, nI np)) ++ ((hiT ca hh ka (nI n) rf) ++ (stT ca kj bj T)))) ++ ((stT ca h a S) ++ (O ++ Z))) := hD
    refine goI (va_runV (As := [.int (nI p)]) (rest := []) ⟨hx, hb, hml, hown, hts⟩ (CtI.use (c_X3_depth l G ca h a S p (by omega)) H.size) (cwV 1 hts gX4_puddle_X3_depth rfl rfl rfl (by decide +kernel) ⟨Nat.le_of_ble_eq_true rfl, Nat.le_of_ble_eq_true rfl⟩) (pcW_V hev (P_left (P_right hP)) (D_left (D_right hD)) (q0 := 0) rfl rfl rfl) rfl rfl hl.1 rfl (lv_room (Nat.le_of_ble_eq_true rfl)) dX4_puddle_77 ⟨Nat.zero_le _, Nat.zero_le _⟩) hP hD hS hA stF (fun H locs hP hD hS => ?_)
    have hP : va_P G vwCl ((xoT xo h hp hh sl) ++ ((paT ca hp ap (g, nI np)) ++ ((hiT ca hh ka (nI n) rf) ++ ((stT ca kj bj T) ++ ((stT ca h a S) ++ (O ++ Z)))))) H := hP
    have hD : va_D A ((xoT xo h hp hh sl) ++ ((paT ca hp ap (g, nI np)) ++ ((hiT ca hh ka (nI n) rf) ++ ((stT ca kj bj T) ++ ((stT ca h a S) ++ (O ++ Z)))))) := hD
    refine lv_eqi (y := (s_wa S) p / 5) rfl ?_
    refine lv_eqi (y := s_wa S p / 5) (by rw []) ?_
    exact hret _ _ _ _ hP hS dX4_puddle_80
  · skip
    exact absurd c_1 (by decide)
set_option maxHeartbeats 4000000 in
set_option maxRecDepth 100000 in
theorem c_X4_puddle_3 (l : Launch) (G : va_G) (ca : Nat → ClassId) (xo sl : Nat) (hp ap : Nat) (g : Nat → Int32) (np : Nat) (hh ka : Nat) (n : Nat) (rf : Nat → Option Nat) (kj : Nat) (bj : Nat → Nat) (T : SS) (h : Nat) (a : Nat → Nat) (S : SS) (O : va_W) (Z : va_W) (p : Nat) (hp1 : p < 12) : CtI l yX4_puddle wsX4_puddle ({ frames := 2, cells := 0, slots := 0, locals := 42 }) [.ref xo, .int (nI p), .int 3] G ca ((xoT xo h hp hh sl) ++ ((paT ca hp ap (g, nI np)) ++ ((hiT ca hh ka (nI n) rf) ++ ((stT ca kj bj T) ++ ((stT ca h a S) ++ (O ++ Z)))))) ((xoT xo h hp hh sl) ++ ((paT ca hp ap (g, nI np)) ++ ((hiT ca hh ka (nI n) rf) ++ ((stT ca kj bj T) ++ ((stT ca h a S) ++ (O ++ Z)))))) (if bt1 (s_fz S) p = 0 then 0 else 1) := by
  refine CtI.ofW (cc := cX4_puddle) (maxL := 3) (rt := .int) (by decide) rfl (Nat.le_of_ble_eq_true rfl) rfl ?_
  intro pr en s m be me c A ls Q H hx hb hml hts hown hev hP hD hA hS hl hret
  have hown : s.vm.findClass RX4 = some m.cls := hown
  have hl : lv_has ls 3 [(0, .ref xo), (1, .int (nI p)), (2, .int 3)] := hl
  have in_wsX40 : ∀ w ∈ wsX40, w ∈ wsX4_puddle := fun _ h => List.mem_cons_of_mem _ (List.mem_append_left _ (List.mem_append_right _ h))
  have in_wsX30 : ∀ w ∈ wsX30, w ∈ wsX4_puddle := fun _ h => List.mem_cons_of_mem _ (List.mem_append_right _ h)
  refine lv_iload_n hx hb dX4_puddle_0 rfl (lv_at hl 1 rfl) ?_
  refine goI0 (va_runS (As := [.int (nI p)]) (rest := []) ⟨hx, hb, hml, hown, hts⟩ (CtI.use (c_X4_isPuddle_in l G ca p (by omega)) H.size) (va_cwS 1 hts gX4_puddle_X4_isPuddle rfl rfl rfl (by decide +kernel) ⟨Nat.le_of_ble_eq_true rfl, Nat.le_of_ble_eq_true rfl⟩) (pcW_S hev P_nil (D_nil (A := A))) rfl rfl hl.1 rfl (lv_room (Nat.le_of_ble_eq_true rfl)) dX4_puddle_1 ⟨Nat.zero_le _, Nat.zero_le _⟩) hP hS hA (fun H locs hP hS => ?_)
  refine lv_if_ne (tgt := 9) hx hb dX4_puddle_4 (by decide) (fun c_1 => ?_) (fun c_1 => ?_)
  · skip
    refine lv_iload_n hx hb dX4_puddle_9 rfl (lv_at hl 2 rfl) ?_
    refine lv_tableIn (off := 71) (tgt := 81) hx hb dX4_puddle_10 (by decide) (by decide) (by decide +kernel) (by decide) ?_
    refine lv_aload_n hx hb dX4_puddle_81 rfl (lv_at hl 0 rfl) ?_
    refine va_get (D := G) (ci := 4) (v := .ref h) (C := RX4) (T := TX4) (N := 4) hx hb hts in_wsX40 hown hev.1 hP 0 rfl rfl 0 (by decide) (hts (.fieldLink RX4 10 "PuddleMinistries" "street" "LPuddleMinistries$Street;") (List.mem_of_getElem? (i := 1) rfl)) (fun _ h9 => h9) rfl dX4_puddle_82 ?_
    refine lv_iload_n hx hb dX4_puddle_85 rfl (lv_at hl 1 rfl) ?_
    have hP : va_P G vwCl (((xoT xo h hp hh sl) ++ ((paT ca hp ap (g, nI np)) ++ ((hiT ca hh ka (nI n) rf) ++ (stT ca kj bj T)))) ++ ((stT ca h a S) ++ (O ++ Z))) H := hP
    have hD : va_D A (((xoT xo h hp hh sl) ++ ((paT ca hp ap (g, nI np)) ++ ((hiT ca hh ka (nI n) rf) ++ (stT ca kj bj T)))) ++ ((stT ca h a S) ++ (O ++ Z))) := hD
    refine goI (va_runV (As := [.int (nI p)]) (rest := []) ⟨hx, hb, hml, hown, hts⟩ (CtI.use (c_X3_isFrozen l G ca h a S p) H.size) (cwV 1 hts gX4_puddle_X3_isFrozen rfl rfl rfl (by decide +kernel) ⟨Nat.le_of_ble_eq_true rfl, Nat.le_of_ble_eq_true rfl⟩) (pcW_V hev (P_left (P_right hP)) (D_left (D_right hD)) (q0 := 0) rfl rfl rfl) rfl rfl hl.1 rfl (lv_room (Nat.le_of_ble_eq_true rfl)) dX4_puddle_86 ⟨Nat.zero_le _, Nat.zero_le _⟩) hP hD hS hA stF (fun H locs hP hD hS => ?_)
    have hP : va_P G vwCl ((xoT xo h hp hh sl) ++ ((paT ca hp ap (g, nI np)) ++ ((hiT ca hh ka (nI n) rf) ++ ((stT ca kj bj T) ++ ((stT ca h a S) ++ (O ++ Z)))))) H := hP
    have hD : va_D A ((xoT xo h hp hh sl) ++ ((paT ca hp ap (g, nI np)) ++ ((hiT ca hh ka (nI n) rf) ++ ((stT ca kj bj T) ++ ((stT ca h a S) ++ (O ++ Z)))))) := hD
    refine lv_if_eq (tgt := 96) hx hb dX4_puddle_89 (by decide) (fun c_2 => ?_) (fun c_2 => ?_)
    · skip
      refine lv_iconst (v := 0) hx hb dX4_puddle_96 (by decide) ?_
      refine lv_eqi (y := if bt1 (s_fz S) p = 0 then 0 else 1) (by rw [if_pos c_2]) ?_
      exact hret _ _ _ _ hP hS dX4_puddle_97
    · skip
      refine lv_iconst (v := 1) hx hb dX4_puddle_92 (by decide) ?_
      refine lv_goto (tgt := 97) hx hb dX4_puddle_93 (by decide) ?_
      refine lv_eqi (y := if bt1 (s_fz S) p = 0 then 0 else 1) (by rw [if_neg c_2]) ?_
      exact hret _ _ _ _ hP hS dX4_puddle_97
  · skip
    exact absurd c_1 (by decide)
set_option maxHeartbeats 4000000 in
set_option maxRecDepth 100000 in
theorem c_X4_puddle_4 (l : Launch) (G : va_G) (ca : Nat → ClassId) (xo sl : Nat) (hp ap : Nat) (g : Nat → Int32) (np : Nat) (hh ka : Nat) (n : Nat) (rf : Nat → Option Nat) (kj : Nat) (bj : Nat → Nat) (T : SS) (h : Nat) (a : Nat → Nat) (S : SS) (O : va_W) (Z : va_W) (p : Nat) (hp1 : p < 12) : CtI l yX4_puddle wsX4_puddle ({ frames := 2, cells := 0, slots := 0, locals := 42 }) [.ref xo, .int (nI p), .int 4] G ca ((xoT xo h hp hh sl) ++ ((paT ca hp ap (g, nI np)) ++ ((hiT ca hh ka (nI n) rf) ++ ((stT ca kj bj T) ++ ((stT ca h a S) ++ (O ++ Z)))))) ((xoT xo h hp hh sl) ++ ((paT ca hp ap (g, nI np)) ++ ((hiT ca hh ka (nI n) rf) ++ ((stT ca kj bj T) ++ ((stT ca h a S) ++ (O ++ Z)))))) (if bt1 (s_dk S) p = 0 then 0 else 1) := by
  refine CtI.ofW (cc := cX4_puddle) (maxL := 3) (rt := .int) (by decide) rfl (Nat.le_of_ble_eq_true rfl) rfl ?_
  intro pr en s m be me c A ls Q H hx hb hml hts hown hev hP hD hA hS hl hret
  have hown : s.vm.findClass RX4 = some m.cls := hown
  have hl : lv_has ls 3 [(0, .ref xo), (1, .int (nI p)), (2, .int 4)] := hl
  have in_wsX40 : ∀ w ∈ wsX40, w ∈ wsX4_puddle := fun _ h => List.mem_cons_of_mem _ (List.mem_append_left _ (List.mem_append_right _ h))
  have in_wsX30 : ∀ w ∈ wsX30, w ∈ wsX4_puddle := fun _ h => List.mem_cons_of_mem _ (List.mem_append_right _ h)
  refine lv_iload_n hx hb dX4_puddle_0 rfl (lv_at hl 1 rfl) ?_
  refine goI0 (va_runS (As := [.int (nI p)]) (rest := []) ⟨hx, hb, hml, hown, hts⟩ (CtI.use (c_X4_isPuddle_in l G ca p (by omega)) H.size) (va_cwS 1 hts gX4_puddle_X4_isPuddle rfl rfl rfl (by decide +kernel) ⟨Nat.le_of_ble_eq_true rfl, Nat.le_of_ble_eq_true rfl⟩) (pcW_S hev P_nil (D_nil (A := A))) rfl rfl hl.1 rfl (lv_room (Nat.le_of_ble_eq_true rfl)) dX4_puddle_1 ⟨Nat.zero_le _, Nat.zero_le _⟩) hP hS hA (fun H locs hP hS => ?_)
  refine lv_if_ne (tgt := 9) hx hb dX4_puddle_4 (by decide) (fun c_1 => ?_) (fun c_1 => ?_)
  · skip
    refine lv_iload_n hx hb dX4_puddle_9 rfl (lv_at hl 2 rfl) ?_
    refine lv_tableIn (off := 88) (tgt := 98) hx hb dX4_puddle_10 (by decide) (by decide) (by decide +kernel) (by decide) ?_
    refine lv_aload_n hx hb dX4_puddle_98 rfl (lv_at hl 0 rfl) ?_
    refine va_get (D := G) (ci := 4) (v := .ref h) (C := RX4) (T := TX4) (N := 4) hx hb hts in_wsX40 hown hev.1 hP 0 rfl rfl 0 (by decide) (hts (.fieldLink RX4 10 "PuddleMinistries" "street" "LPuddleMinistries$Street;") (List.mem_of_getElem? (i := 1) rfl)) (fun _ h9 => h9) rfl dX4_puddle_99 ?_
    refine lv_iload_n hx hb dX4_puddle_102 rfl (lv_at hl 1 rfl) ?_
    have hP : va_P G vwCl (((xoT xo h hp hh sl) ++ ((paT ca hp ap (g, nI np)) ++ ((hiT ca hh ka (nI n) rf) ++ (stT ca kj bj T)))) ++ ((stT ca h a S) ++ (O ++ Z))) H := hP
    have hD : va_D A (((xoT xo h hp hh sl) ++ ((paT ca hp ap (g, nI np)) ++ ((hiT ca hh ka (nI n) rf) ++ (stT ca kj bj T)))) ++ ((stT ca h a S) ++ (O ++ Z))) := hD
    refine goI (va_runV (As := [.int (nI p)]) (rest := []) ⟨hx, hb, hml, hown, hts⟩ (CtI.use (c_X3_hasDucks l G ca h a S p) H.size) (cwV 1 hts gX4_puddle_X3_hasDucks rfl rfl rfl (by decide +kernel) ⟨Nat.le_of_ble_eq_true rfl, Nat.le_of_ble_eq_true rfl⟩) (pcW_V hev (P_left (P_right hP)) (D_left (D_right hD)) (q0 := 0) rfl rfl rfl) rfl rfl hl.1 rfl (lv_room (Nat.le_of_ble_eq_true rfl)) dX4_puddle_103 ⟨Nat.zero_le _, Nat.zero_le _⟩) hP hD hS hA stF (fun H locs hP hD hS => ?_)
    have hP : va_P G vwCl ((xoT xo h hp hh sl) ++ ((paT ca hp ap (g, nI np)) ++ ((hiT ca hh ka (nI n) rf) ++ ((stT ca kj bj T) ++ ((stT ca h a S) ++ (O ++ Z)))))) H := hP
    have hD : va_D A ((xoT xo h hp hh sl) ++ ((paT ca hp ap (g, nI np)) ++ ((hiT ca hh ka (nI n) rf) ++ ((stT ca kj bj T) ++ ((stT ca h a S) ++ (O ++ Z)))))) := hD
    refine lv_if_eq (tgt := 113) hx hb dX4_puddle_106 (by decide) (fun c_2 => ?_) (fun c_2 => ?_)
    · skip
      refine lv_iconst (v := 0) hx hb dX4_puddle_113 (by decide) ?_
      refine lv_eqi (y := if bt1 (s_dk S) p = 0 then 0 else 1) (by rw [if_pos c_2]) ?_
      exact hret _ _ _ _ hP hS dX4_puddle_114
    · skip
      refine lv_iconst (v := 1) hx hb dX4_puddle_109 (by decide) ?_
      refine lv_goto (tgt := 114) hx hb dX4_puddle_110 (by decide) ?_
      refine lv_eqi (y := if bt1 (s_dk S) p = 0 then 0 else 1) (by rw [if_neg c_2]) ?_
      exact hret _ _ _ _ hP hS dX4_puddle_114
  · skip
    exact absurd c_1 (by decide)
set_option maxHeartbeats 4000000 in
set_option maxRecDepth 100000 in
theorem c_X4_puddle_5 (l : Launch) (G : va_G) (ca : Nat → ClassId) (xo sl : Nat) (hp ap : Nat) (g : Nat → Int32) (np : Nat) (hh ka : Nat) (n : Nat) (rf : Nat → Option Nat) (kj : Nat) (bj : Nat → Nat) (T : SS) (h : Nat) (a : Nat → Nat) (S : SS) (O : va_W) (Z : va_W) (p : Nat) (hp1 : p < 12) : CtI l yX4_puddle wsX4_puddle ({ frames := 1, cells := 0, slots := 0, locals := 20 }) [.ref xo, .int (nI p), .int 5] G ca ((xoT xo h hp hh sl) ++ ((paT ca hp ap (g, nI np)) ++ ((hiT ca hh ka (nI n) rf) ++ ((stT ca kj bj T) ++ ((stT ca h a S) ++ (O ++ Z)))))) ((xoT xo h hp hh sl) ++ ((paT ca hp ap (g, nI np)) ++ ((hiT ca hh ka (nI n) rf) ++ ((stT ca kj bj T) ++ ((stT ca h a S) ++ (O ++ Z)))))) (s_cr S p) := by
  refine CtI.ofW (cc := cX4_puddle) (maxL := 3) (rt := .int) (by decide) rfl (Nat.le_of_ble_eq_true rfl) rfl ?_
  intro pr en s m be me c A ls Q H hx hb hml hts hown hev hP hD hA hS hl hret
  have hown : s.vm.findClass RX4 = some m.cls := hown
  have hl : lv_has ls 3 [(0, .ref xo), (1, .int (nI p)), (2, .int 5)] := hl
  have in_wsX40 : ∀ w ∈ wsX40, w ∈ wsX4_puddle := fun _ h => List.mem_cons_of_mem _ (List.mem_append_left _ (List.mem_append_right _ h))
  have in_wsX30 : ∀ w ∈ wsX30, w ∈ wsX4_puddle := fun _ h => List.mem_cons_of_mem _ (List.mem_append_right _ h)
  refine lv_iload_n hx hb dX4_puddle_0 rfl (lv_at hl 1 rfl) ?_
  refine goI0 (va_runS (As := [.int (nI p)]) (rest := []) ⟨hx, hb, hml, hown, hts⟩ (CtI.use (c_X4_isPuddle_in l G ca p (by omega)) H.size) (va_cwS 1 hts gX4_puddle_X4_isPuddle rfl rfl rfl (by decide +kernel) ⟨Nat.le_of_ble_eq_true rfl, Nat.le_of_ble_eq_true rfl⟩) (pcW_S hev P_nil (D_nil (A := A))) rfl rfl hl.1 rfl (lv_room (Nat.le_of_ble_eq_true rfl)) dX4_puddle_1 ⟨Nat.zero_le _, Nat.zero_le _⟩) hP hS hA (fun H locs hP hS => ?_)
  refine lv_if_ne (tgt := 9) hx hb dX4_puddle_4 (by decide) (fun c_1 => ?_) (fun c_1 => ?_)
  · skip
    refine lv_iload_n hx hb dX4_puddle_9 rfl (lv_at hl 2 rfl) ?_
    refine lv_tableIn (off := 105) (tgt := 115) hx hb dX4_puddle_10 (by decide) (by decide) (by decide +kernel) (by decide) ?_
    refine lv_aload_n hx hb dX4_puddle_115 rfl (lv_at hl 0 rfl) ?_
    refine va_get (D := G) (ci := 4) (v := .ref h) (C := RX4) (T := TX4) (N := 4) hx hb hts in_wsX40 hown hev.1 hP 0 rfl rfl 0 (by decide) (hts (.fieldLink RX4 10 "PuddleMinistries" "street" "LPuddleMinistries$Street;") (List.mem_of_getElem? (i := 1) rfl)) (fun _ h9 => h9) rfl dX4_puddle_116 ?_
    refine va_get (D := G) (ci := 3) (v := .ref (a 3)) (C := RX3) (T := TX3) (N := 15) hx hb hts in_wsX30 hown hev.1 hP 15 rfl rfl 3 (by decide) (hts (.fieldLink RX4 140 "PuddleMinistries$Street" "crossingsOf" "[I") (List.mem_of_getElem? (i := 4) rfl)) (fun _ h9 => h9) rfl dX4_puddle_119 ?_
    refine lv_iload_n hx hb dX4_puddle_122 rfl (lv_at hl 1 rfl) ?_
    refine b_iald hx hb hev.1 hP 19 rfl rfl (j := p) (by omega) (by decide) dX4_puddle_123 ?_
    refine lv_eqi (y := s_cr S p) (by rw []) ?_
    exact hret _ _ _ _ hP hS dX4_puddle_124
  · skip
    exact absurd c_1 (by decide)
set_option maxHeartbeats 4000000 in
set_option maxRecDepth 100000 in
theorem c_X4_puddle_6 (l : Launch) (G : va_G) (ca : Nat → ClassId) (xo sl : Nat) (hp ap : Nat) (g : Nat → Int32) (np : Nat) (hh ka : Nat) (n : Nat) (rf : Nat → Option Nat) (kj : Nat) (bj : Nat → Nat) (T : SS) (h : Nat) (a : Nat → Nat) (S : SS) (O : va_W) (Z : va_W) (p : Nat) (hp1 : p < 12) : CtI l yX4_puddle wsX4_puddle ({ frames := 3, cells := 0, slots := 0, locals := 66 }) [.ref xo, .int (nI p), .int 6] G ca ((xoT xo h hp hh sl) ++ ((paT ca hp ap (g, nI np)) ++ ((hiT ca hh ka (nI n) rf) ++ ((stT ca kj bj T) ++ ((stT ca h a S) ++ (O ++ Z)))))) ((xoT xo h hp hh sl) ++ ((paT ca hp ap (g, nI np)) ++ ((hiT ca hh ka (nI n) rf) ++ ((stT ca kj bj T) ++ ((stT ca h a S) ++ (O ++ Z)))))) (mkD (fun w => hasP (s_pd S) w p) 6) := by
  refine CtI.ofW (cc := cX4_puddle) (maxL := 3) (rt := .int) (by decide) rfl (Nat.le_of_ble_eq_true rfl) rfl ?_
  intro pr en s m be me c A ls Q H hx hb hml hts hown hev hP hD hA hS hl hret
  have hown : s.vm.findClass RX4 = some m.cls := hown
  have hl : lv_has ls 3 [(0, .ref xo), (1, .int (nI p)), (2, .int 6)] := hl
  have in_wsX40 : ∀ w ∈ wsX40, w ∈ wsX4_puddle := fun _ h => List.mem_cons_of_mem _ (List.mem_append_left _ (List.mem_append_right _ h))
  have in_wsX30 : ∀ w ∈ wsX30, w ∈ wsX4_puddle := fun _ h => List.mem_cons_of_mem _ (List.mem_append_right _ h)
  refine lv_iload_n hx hb dX4_puddle_0 rfl (lv_at hl 1 rfl) ?_
  refine goI0 (va_runS (As := [.int (nI p)]) (rest := []) ⟨hx, hb, hml, hown, hts⟩ (CtI.use (c_X4_isPuddle_in l G ca p (by omega)) H.size) (va_cwS 1 hts gX4_puddle_X4_isPuddle rfl rfl rfl (by decide +kernel) ⟨Nat.le_of_ble_eq_true rfl, Nat.le_of_ble_eq_true rfl⟩) (pcW_S hev P_nil (D_nil (A := A))) rfl rfl hl.1 rfl (lv_room (Nat.le_of_ble_eq_true rfl)) dX4_puddle_1 ⟨Nat.zero_le _, Nat.zero_le _⟩) hP hS hA (fun H locs hP hS => ?_)
  refine lv_if_ne (tgt := 9) hx hb dX4_puddle_4 (by decide) (fun c_1 => ?_) (fun c_1 => ?_)
  · skip
    refine lv_iload_n hx hb dX4_puddle_9 rfl (lv_at hl 2 rfl) ?_
    refine lv_tableIn (off := 115) (tgt := 125) hx hb dX4_puddle_10 (by decide) (by decide) (by decide +kernel) (by decide) ?_
    refine lv_aload_n hx hb dX4_puddle_125 rfl (lv_at hl 0 rfl) ?_
    refine va_get (D := G) (ci := 4) (v := .ref h) (C := RX4) (T := TX4) (N := 4) hx hb hts in_wsX40 hown hev.1 hP 0 rfl rfl 0 (by decide) (hts (.fieldLink RX4 10 "PuddleMinistries" "street" "LPuddleMinistries$Street;") (List.mem_of_getElem? (i := 1) rfl)) (fun _ h9 => h9) rfl dX4_puddle_126 ?_
    refine lv_iload_n hx hb dX4_puddle_129 rfl (lv_at hl 1 rfl) ?_
    have hP : va_P G vwCl (((xoT xo h hp hh sl) ++ ((paT ca hp ap (g, nI np)) ++ ((hiT ca hh ka (nI n) rf) ++ (stT ca kj bj T)))) ++ ((stT ca h a S) ++ (O ++ Z))) H := hP
    have hD : va_D A (((xoT xo h hp hh sl) ++ ((paT ca hp ap (g, nI np)) ++ ((hiT ca hh ka (nI n) rf) ++ (stT ca kj bj T)))) ++ ((stT ca h a S) ++ (O ++ Z))) := hD
    refine goI (va_runV (As := [.int (nI p)]) (rest := []) ⟨hx, hb, hml, hown, hts⟩ (CtI.use (c_X3_permitHoldersAt l G ca h a S p (by omega)) H.size) (cwV 1 hts gX4_puddle_X3_permitHoldersAt rfl rfl rfl (by decide +kernel) ⟨Nat.le_of_ble_eq_true rfl, Nat.le_of_ble_eq_true rfl⟩) (pcW_V hev (P_left (P_right hP)) (D_left (D_right hD)) (q0 := 0) rfl rfl rfl) rfl rfl hl.1 rfl (lv_room (Nat.le_of_ble_eq_true rfl)) dX4_puddle_130 ⟨Nat.zero_le _, Nat.zero_le _⟩) hP hD hS hA stF (fun H locs hP hD hS => ?_)
    have hP : va_P G vwCl ((xoT xo h hp hh sl) ++ ((paT ca hp ap (g, nI np)) ++ ((hiT ca hh ka (nI n) rf) ++ ((stT ca kj bj T) ++ ((stT ca h a S) ++ (O ++ Z)))))) H := hP
    have hD : va_D A ((xoT xo h hp hh sl) ++ ((paT ca hp ap (g, nI np)) ++ ((hiT ca hh ka (nI n) rf) ++ ((stT ca kj bj T) ++ ((stT ca h a S) ++ (O ++ Z)))))) := hD
    exact hret _ _ _ _ hP hS dX4_puddle_133
  · skip
    exact absurd c_1 (by decide)
set_option maxHeartbeats 4000000 in
set_option maxRecDepth 100000 in
theorem c_X4_puddle_bad (l : Launch) (G : va_G) (ca : Nat → ClassId) (xo sl : Nat) (hp ap : Nat) (g : Nat → Int32) (np : Nat) (hh ka : Nat) (n : Nat) (rf : Nat → Option Nat) (kj : Nat) (bj : Nat → Nat) (T : SS) (h : Nat) (a : Nat → Nat) (S : SS) (O : va_W) (Z : va_W) (p : Nat) (v : Int32) (hp1 : p < 12) (hv : v.toInt < 0 ∨ 6 < v.toInt) : CtI l yX4_puddle wsX4_puddle ({ frames := 1, cells := 0, slots := 0, locals := 20 }) [.ref xo, .int (nI p), .int v] G ca ((xoT xo h hp hh sl) ++ ((paT ca hp ap (g, nI np)) ++ ((hiT ca hh ka (nI n) rf) ++ ((stT ca kj bj T) ++ ((stT ca h a S) ++ (O ++ Z)))))) ((xoT xo h hp hh sl) ++ ((paT ca hp ap (g, nI np)) ++ ((hiT ca hh ka (nI n) rf) ++ ((stT ca kj bj T) ++ ((stT ca h a S) ++ (O ++ Z)))))) (-2) := by
  refine CtI.ofW (cc := cX4_puddle) (maxL := 3) (rt := .int) (by decide) rfl (Nat.le_of_ble_eq_true rfl) rfl ?_
  intro pr en s m be me c A ls Q H hx hb hml hts hown hev hP hD hA hS hl hret
  have hown : s.vm.findClass RX4 = some m.cls := hown
  have hl : lv_has ls 3 [(0, .ref xo), (1, .int (nI p)), (2, .int v)] := hl
  have in_wsX40 : ∀ w ∈ wsX40, w ∈ wsX4_puddle := fun _ h => List.mem_cons_of_mem _ (List.mem_append_left _ (List.mem_append_right _ h))
  have in_wsX30 : ∀ w ∈ wsX30, w ∈ wsX4_puddle := fun _ h => List.mem_cons_of_mem _ (List.mem_append_right _ h)
  refine lv_iload_n hx hb dX4_puddle_0 rfl (lv_at hl 1 rfl) ?_
  refine goI0 (va_runS (As := [.int (nI p)]) (rest := []) ⟨hx, hb, hml, hown, hts⟩ (CtI.use (c_X4_isPuddle_in l G ca p (by omega)) H.size) (va_cwS 1 hts gX4_puddle_X4_isPuddle rfl rfl rfl (by decide +kernel) ⟨Nat.le_of_ble_eq_true rfl, Nat.le_of_ble_eq_true rfl⟩) (pcW_S hev P_nil (D_nil (A := A))) rfl rfl hl.1 rfl (lv_room (Nat.le_of_ble_eq_true rfl)) dX4_puddle_1 ⟨Nat.zero_le _, Nat.zero_le _⟩) hP hS hA (fun H locs hP hS => ?_)
  refine lv_if_ne (tgt := 9) hx hb dX4_puddle_4 (by decide) (fun c_1 => ?_) (fun c_1 => ?_)
  · skip
    refine lv_iload_n hx hb dX4_puddle_9 rfl (lv_at hl 2 rfl) ?_
    refine lv_tableOut (tgt := 134) hx hb dX4_puddle_10 hv (by decide) ?_
    refine lv_bipush (v := (-2)) hx hb dX4_puddle_134 (by decide) ?_
    exact hret _ _ _ _ hP hS dX4_puddle_136
  · skip
    exact absurd c_1 (by decide)
set_option maxHeartbeats 4000000 in
set_option maxRecDepth 100000 in
theorem c_X4_walker_out (l : Launch) (G : va_G) (ca : Nat → ClassId) (xo sl : Nat) (hp ap : Nat) (g : Nat → Int32) (np : Nat) (hh ka : Nat) (n : Nat) (rf : Nat → Option Nat) (kj : Nat) (bj : Nat → Nat) (T : SS) (h : Nat) (a : Nat → Nat) (S : SS) (O : va_W) (Z : va_W) (x : Int32) (v : Int32) (hx0 : x < 0 ∨ nI 6 ≤ x) : CtI l yX4_walker wsX4_walker ({ frames := 1, cells := 0, slots := 0, locals := 20 }) [.ref xo, .int x, .int v] G ca ((xoT xo h hp hh sl) ++ ((paT ca hp ap (g, nI np)) ++ ((hiT ca hh ka (nI n) rf) ++ ((stT ca kj bj T) ++ ((stT ca h a S) ++ (O ++ Z)))))) ((xoT xo h hp hh sl) ++ ((paT ca hp ap (g, nI np)) ++ ((hiT ca hh ka (nI n) rf) ++ ((stT ca kj bj T) ++ ((stT ca h a S) ++ (O ++ Z)))))) (-1) := by
  refine CtI.ofW (cc := cX4_walker) (maxL := 3) (rt := .int) (by decide) rfl (Nat.le_of_ble_eq_true rfl) rfl ?_
  intro pr en s m be me c A ls Q H hx hb hml hts hown hev hP hD hA hS hl hret
  have hown : s.vm.findClass RX4 = some m.cls := hown
  have hl : lv_has ls 3 [(0, .ref xo), (1, .int x), (2, .int v)] := hl
  have in_wsX40 : ∀ w ∈ wsX40, w ∈ wsX4_walker := fun _ h => List.mem_cons_of_mem _ (List.mem_append_left _ (List.mem_append_right _ h))
  have in_wsX30 : ∀ w ∈ wsX30, w ∈ wsX4_walker := fun _ h => List.mem_cons_of_mem _ (List.mem_append_right _ h)
  refine lv_iload_n hx hb dX4_walker_0 rfl (lv_at hl 1 rfl) ?_
  refine goI0 (va_runS (As := [.int x]) (rest := []) ⟨hx, hb, hml, hown, hts⟩ (CtI.use (c_X4_isWalker_out l G ca x hx0) H.size) (va_cwS 1 hts gX4_walker_X4_isWalker rfl rfl rfl (by decide +kernel) ⟨Nat.le_of_ble_eq_true rfl, Nat.le_of_ble_eq_true rfl⟩) (pcW_S hev P_nil (D_nil (A := A))) rfl rfl hl.1 rfl (lv_room (Nat.le_of_ble_eq_true rfl)) dX4_walker_1 ⟨Nat.zero_le _, Nat.zero_le _⟩) hP hS hA (fun H locs hP hS => ?_)
  refine lv_if_ne (tgt := 9) hx hb dX4_walker_4 (by decide) (fun c_1 => ?_) (fun c_1 => ?_)
  · skip
    exact absurd (by decide) c_1
  · skip
    refine lv_iconst (v := (-1)) hx hb dX4_walker_7 (by decide) ?_
    exact hret _ _ _ _ hP hS dX4_walker_8
set_option maxHeartbeats 4000000 in
set_option maxRecDepth 100000 in
theorem c_X4_walker_0 (l : Launch) (G : va_G) (ca : Nat → ClassId) (xo sl : Nat) (hp ap : Nat) (g : Nat → Int32) (np : Nat) (hh ka : Nat) (n : Nat) (rf : Nat → Option Nat) (kj : Nat) (bj : Nat → Nat) (T : SS) (h : Nat) (a : Nat → Nat) (S : SS) (O : va_W) (Z : va_W) (w : Nat) (hw : w < 6) : CtI l yX4_walker wsX4_walker ({ frames := 1, cells := 0, slots := 0, locals := 20 }) [.ref xo, .int (nI w), .int 0] G ca ((xoT xo h hp hh sl) ++ ((paT ca hp ap (g, nI np)) ++ ((hiT ca hh ka (nI n) rf) ++ ((stT ca kj bj T) ++ ((stT ca h a S) ++ (O ++ Z)))))) ((xoT xo h hp hh sl) ++ ((paT ca hp ap (g, nI np)) ++ ((hiT ca hh ka (nI n) rf) ++ ((stT ca kj bj T) ++ ((stT ca h a S) ++ (O ++ Z)))))) (s_sh S w) := by
  refine CtI.ofW (cc := cX4_walker) (maxL := 3) (rt := .int) (by decide) rfl (Nat.le_of_ble_eq_true rfl) rfl ?_
  intro pr en s m be me c A ls Q H hx hb hml hts hown hev hP hD hA hS hl hret
  have hown : s.vm.findClass RX4 = some m.cls := hown
  have hl : lv_has ls 3 [(0, .ref xo), (1, .int (nI w)), (2, .int 0)] := hl
  have in_wsX40 : ∀ w ∈ wsX40, w ∈ wsX4_walker := fun _ h => List.mem_cons_of_mem _ (List.mem_append_left _ (List.mem_append_right _ h))
  have in_wsX30 : ∀ w ∈ wsX30, w ∈ wsX4_walker := fun _ h => List.mem_cons_of_mem _ (List.mem_append_right _ h)
  refine lv_iload_n hx hb dX4_walker_0 rfl (lv_at hl 1 rfl) ?_
  refine goI0 (va_runS (As := [.int (nI w)]) (rest := []) ⟨hx, hb, hml, hown, hts⟩ (CtI.use (c_X4_isWalker_in l G ca w (by omega)) H.size) (va_cwS 1 hts gX4_walker_X4_isWalker rfl rfl rfl (by decide +kernel) ⟨Nat.le_of_ble_eq_true rfl, Nat.le_of_ble_eq_true rfl⟩) (pcW_S hev P_nil (D_nil (A := A))) rfl rfl hl.1 rfl (lv_room (Nat.le_of_ble_eq_true rfl)) dX4_walker_1 ⟨Nat.zero_le _, Nat.zero_le _⟩) hP hS hA (fun H locs hP hS => ?_)
  refine lv_if_ne (tgt := 9) hx hb dX4_walker_4 (by decide) (fun c_1 => ?_) (fun c_1 => ?_)
  · skip
    refine lv_iload_n hx hb dX4_walker_9 rfl (lv_at hl 2 rfl) ?_
    refine lv_tableIn (off := 38) (tgt := 48) hx hb dX4_walker_10 (by decide) (by decide) (by decide +kernel) (by decide) ?_
    refine lv_aload_n hx hb dX4_walker_48 rfl (lv_at hl 0 rfl) ?_
    refine va_get (D := G) (ci := 4) (v := .ref h) (C := RX4) (T := TX4) (N := 4) hx hb hts in_wsX40 hown hev.1 hP 0 rfl rfl 0 (by decide) (hts (.fieldLink RX4 10 "PuddleMinistries" "street" "LPuddleMinistries$Street;") (List.mem_of_getElem? (i := 1) rfl)) (fun _ h9 => h9) rfl dX4_walker_49 ?_
    refine va_get (D := G) (ci := 3) (v := .ref (a 4)) (C := RX3) (T := TX3) (N := 15) hx hb hts in_wsX30 hown hev.1 hP 15 rfl rfl 4 (by decide) (hts (.fieldLink RX4 75 "PuddleMinistries$Street" "shoesOf" "[I") (List.mem_of_getElem? (i := 2) rfl)) (fun _ h9 => h9) rfl dX4_walker_52 ?_
    refine lv_iload_n hx hb dX4_walker_55 rfl (lv_at hl 1 rfl) ?_
    refine b_iald hx hb hev.1 hP 20 rfl rfl (j := w) (by omega) (by decide) dX4_walker_56 ?_
    refine lv_eqi (y := s_sh S w) rfl ?_
    exact hret _ _ _ _ hP hS dX4_walker_57
  · skip
    exact absurd c_1 (by decide)
set_option maxHeartbeats 4000000 in
set_option maxRecDepth 100000 in
theorem c_X4_walker_1 (l : Launch) (G : va_G) (ca : Nat → ClassId) (xo sl : Nat) (hp ap : Nat) (g : Nat → Int32) (np : Nat) (hh ka : Nat) (n : Nat) (rf : Nat → Option Nat) (kj : Nat) (bj : Nat → Nat) (T : SS) (h : Nat) (a : Nat → Nat) (S : SS) (O : va_W) (Z : va_W) (w : Nat) (hw : w < 6) : CtI l yX4_walker wsX4_walker ({ frames := 1, cells := 0, slots := 0, locals := 20 }) [.ref xo, .int (nI w), .int 1] G ca ((xoT xo h hp hh sl) ++ ((paT ca hp ap (g, nI np)) ++ ((hiT ca hh ka (nI n) rf) ++ ((stT ca kj bj T) ++ ((stT ca h a S) ++ (O ++ Z)))))) ((xoT xo h hp hh sl) ++ ((paT ca hp ap (g, nI np)) ++ ((hiT ca hh ka (nI n) rf) ++ ((stT ca kj bj T) ++ ((stT ca h a S) ++ (O ++ Z)))))) (s_ow S w) := by
  refine CtI.ofW (cc := cX4_walker) (maxL := 3) (rt := .int) (by decide) rfl (Nat.le_of_ble_eq_true rfl) rfl ?_
  intro pr en s m be me c A ls Q H hx hb hml hts hown hev hP hD hA hS hl hret
  have hown : s.vm.findClass RX4 = some m.cls := hown
  have hl : lv_has ls 3 [(0, .ref xo), (1, .int (nI w)), (2, .int 1)] := hl
  have in_wsX40 : ∀ w ∈ wsX40, w ∈ wsX4_walker := fun _ h => List.mem_cons_of_mem _ (List.mem_append_left _ (List.mem_append_right _ h))
  have in_wsX30 : ∀ w ∈ wsX30, w ∈ wsX4_walker := fun _ h => List.mem_cons_of_mem _ (List.mem_append_right _ h)
  refine lv_iload_n hx hb dX4_walker_0 rfl (lv_at hl 1 rfl) ?_
  refine goI0 (va_runS (As := [.int (nI w)]) (rest := []) ⟨hx, hb, hml, hown, hts⟩ (CtI.use (c_X4_isWalker_in l G ca w (by omega)) H.size) (va_cwS 1 hts gX4_walker_X4_isWalker rfl rfl rfl (by decide +kernel) ⟨Nat.le_of_ble_eq_true rfl, Nat.le_of_ble_eq_true rfl⟩) (pcW_S hev P_nil (D_nil (A := A))) rfl rfl hl.1 rfl (lv_room (Nat.le_of_ble_eq_true rfl)) dX4_walker_1 ⟨Nat.zero_le _, Nat.zero_le _⟩) hP hS hA (fun H locs hP hS => ?_)
  refine lv_if_ne (tgt := 9) hx hb dX4_walker_4 (by decide) (fun c_1 => ?_) (fun c_1 => ?_)
  · skip
    refine lv_iload_n hx hb dX4_walker_9 rfl (lv_at hl 2 rfl) ?_
    refine lv_tableIn (off := 48) (tgt := 58) hx hb dX4_walker_10 (by decide) (by decide) (by decide +kernel) (by decide) ?_
    refine lv_aload_n hx hb dX4_walker_58 rfl (lv_at hl 0 rfl) ?_
    refine va_get (D := G) (ci := 4) (v := .ref h) (C := RX4) (T := TX4) (N := 4) hx hb hts in_wsX40 hown hev.1 hP 0 rfl rfl 0 (by decide) (hts (.fieldLink RX4 10 "PuddleMinistries" "street" "LPuddleMinistries$Street;") (List.mem_of_getElem? (i := 1) rfl)) (fun _ h9 => h9) rfl dX4_walker_59 ?_
    refine va_get (D := G) (ci := 3) (v := .ref (a 5)) (C := RX3) (T := TX3) (N := 15) hx hb hts in_wsX30 hown hev.1 hP 15 rfl rfl 5 (by decide) (hts (.fieldLink RX4 104 "PuddleMinistries$Street" "owedBy" "[I") (List.mem_of_getElem? (i := 3) rfl)) (fun _ h9 => h9) rfl dX4_walker_62 ?_
    refine lv_iload_n hx hb dX4_walker_65 rfl (lv_at hl 1 rfl) ?_
    refine b_iald hx hb hev.1 hP 21 rfl rfl (j := w) (by omega) (by decide) dX4_walker_66 ?_
    refine lv_eqi (y := s_ow S w) rfl ?_
    exact hret _ _ _ _ hP hS dX4_walker_67
  · skip
    exact absurd c_1 (by decide)
set_option maxHeartbeats 4000000 in
set_option maxRecDepth 100000 in
theorem c_X4_walker_2 (l : Launch) (G : va_G) (ca : Nat → ClassId) (xo sl : Nat) (hp ap : Nat) (g : Nat → Int32) (np : Nat) (hh ka : Nat) (n : Nat) (rf : Nat → Option Nat) (kj : Nat) (bj : Nat → Nat) (T : SS) (h : Nat) (a : Nat → Nat) (S : SS) (O : va_W) (Z : va_W) (w : Nat) (hw : w < 6) : CtI l yX4_walker wsX4_walker ({ frames := 1, cells := 0, slots := 0, locals := 20 }) [.ref xo, .int (nI w), .int 2] G ca ((xoT xo h hp hh sl) ++ ((paT ca hp ap (g, nI np)) ++ ((hiT ca hh ka (nI n) rf) ++ ((stT ca kj bj T) ++ ((stT ca h a S) ++ (O ++ Z)))))) ((xoT xo h hp hh sl) ++ ((paT ca hp ap (g, nI np)) ++ ((hiT ca hh ka (nI n) rf) ++ ((stT ca kj bj T) ++ ((stT ca h a S) ++ (O ++ Z)))))) (s_pa S w) := by
  refine CtI.ofW (cc := cX4_walker) (maxL := 3) (rt := .int) (by decide) rfl (Nat.le_of_ble_eq_true rfl) rfl ?_
  intro pr en s m be me c A ls Q H hx hb hml hts hown hev hP hD hA hS hl hret
  have hown : s.vm.findClass RX4 = some m.cls := hown
  have hl : lv_has ls 3 [(0, .ref xo), (1, .int (nI w)), (2, .int 2)] := hl
  have in_wsX40 : ∀ w ∈ wsX40, w ∈ wsX4_walker := fun _ h => List.mem_cons_of_mem _ (List.mem_append_left _ (List.mem_append_right _ h))
  have in_wsX30 : ∀ w ∈ wsX30, w ∈ wsX4_walker := fun _ h => List.mem_cons_of_mem _ (List.mem_append_right _ h)
  refine lv_iload_n hx hb dX4_walker_0 rfl (lv_at hl 1 rfl) ?_
  refine goI0 (va_runS (As := [.int (nI w)]) (rest := []) ⟨hx, hb, hml, hown, hts⟩ (CtI.use (c_X4_isWalker_in l G ca w (by omega)) H.size) (va_cwS 1 hts gX4_walker_X4_isWalker rfl rfl rfl (by decide +kernel) ⟨Nat.le_of_ble_eq_true rfl, Nat.le_of_ble_eq_true rfl⟩) (pcW_S hev P_nil (D_nil (A := A))) rfl rfl hl.1 rfl (lv_room (Nat.le_of_ble_eq_true rfl)) dX4_walker_1 ⟨Nat.zero_le _, Nat.zero_le _⟩) hP hS hA (fun H locs hP hS => ?_)
  refine lv_if_ne (tgt := 9) hx hb dX4_walker_4 (by decide) (fun c_1 => ?_) (fun c_1 => ?_)
  · skip
    refine lv_iload_n hx hb dX4_walker_9 rfl (lv_at hl 2 rfl) ?_
    refine lv_tableIn (off := 58) (tgt := 68) hx hb dX4_walker_10 (by decide) (by decide) (by decide +kernel) (by decide) ?_
    refine lv_aload_n hx hb dX4_walker_68 rfl (lv_at hl 0 rfl) ?_
    refine va_get (D := G) (ci := 4) (v := .ref h) (C := RX4) (T := TX4) (N := 4) hx hb hts in_wsX40 hown hev.1 hP 0 rfl rfl 0 (by decide) (hts (.fieldLink RX4 10 "PuddleMinistries" "street" "LPuddleMinistries$Street;") (List.mem_of_getElem? (i := 1) rfl)) (fun _ h9 => h9) rfl dX4_walker_69 ?_
    refine va_get (D := G) (ci := 3) (v := .ref (a 6)) (C := RX3) (T := TX3) (N := 15) hx hb hts in_wsX30 hown hev.1 hP 15 rfl rfl 6 (by decide) (hts (.fieldLink RX4 107 "PuddleMinistries$Street" "paidBy" "[I") (List.mem_of_getElem? (i := 4) rfl)) (fun _ h9 => h9) rfl dX4_walker_72 ?_
    refine lv_iload_n hx hb dX4_walker_75 rfl (lv_at hl 1 rfl) ?_
    refine b_iald hx hb hev.1 hP 22 rfl rfl (j := w) (by omega) (by decide) dX4_walker_76 ?_
    refine lv_eqi (y := s_pa S w) rfl ?_
    exact hret _ _ _ _ hP hS dX4_walker_77
  · skip
    exact absurd c_1 (by decide)
set_option maxHeartbeats 4000000 in
set_option maxRecDepth 100000 in
theorem c_X4_walker_3 (l : Launch) (G : va_G) (ca : Nat → ClassId) (xo sl : Nat) (hp ap : Nat) (g : Nat → Int32) (np : Nat) (hh ka : Nat) (n : Nat) (rf : Nat → Option Nat) (kj : Nat) (bj : Nat → Nat) (T : SS) (h : Nat) (a : Nat → Nat) (S : SS) (O : va_W) (Z : va_W) (w : Nat) (hw : w < 6) : CtI l yX4_walker wsX4_walker ({ frames := 1, cells := 0, slots := 0, locals := 20 }) [.ref xo, .int (nI w), .int 3] G ca ((xoT xo h hp hh sl) ++ ((paT ca hp ap (g, nI np)) ++ ((hiT ca hh ka (nI n) rf) ++ ((stT ca kj bj T) ++ ((stT ca h a S) ++ (O ++ Z)))))) ((xoT xo h hp hh sl) ++ ((paT ca hp ap (g, nI np)) ++ ((hiT ca hh ka (nI n) rf) ++ ((stT ca kj bj T) ++ ((stT ca h a S) ++ (O ++ Z)))))) (s_cb S w) := by
  refine CtI.ofW (cc := cX4_walker) (maxL := 3) (rt := .int) (by decide) rfl (Nat.le_of_ble_eq_true rfl) rfl ?_
  intro pr en s m be me c A ls Q H hx hb hml hts hown hev hP hD hA hS hl hret
  have hown : s.vm.findClass RX4 = some m.cls := hown
  have hl : lv_has ls 3 [(0, .ref xo), (1, .int (nI w)), (2, .int 3)] := hl
  have in_wsX40 : ∀ w ∈ wsX40, w ∈ wsX4_walker := fun _ h => List.mem_cons_of_mem _ (List.mem_append_left _ (List.mem_append_right _ h))
  have in_wsX30 : ∀ w ∈ wsX30, w ∈ wsX4_walker := fun _ h => List.mem_cons_of_mem _ (List.mem_append_right _ h)
  refine lv_iload_n hx hb dX4_walker_0 rfl (lv_at hl 1 rfl) ?_
  refine goI0 (va_runS (As := [.int (nI w)]) (rest := []) ⟨hx, hb, hml, hown, hts⟩ (CtI.use (c_X4_isWalker_in l G ca w (by omega)) H.size) (va_cwS 1 hts gX4_walker_X4_isWalker rfl rfl rfl (by decide +kernel) ⟨Nat.le_of_ble_eq_true rfl, Nat.le_of_ble_eq_true rfl⟩) (pcW_S hev P_nil (D_nil (A := A))) rfl rfl hl.1 rfl (lv_room (Nat.le_of_ble_eq_true rfl)) dX4_walker_1 ⟨Nat.zero_le _, Nat.zero_le _⟩) hP hS hA (fun H locs hP hS => ?_)
  refine lv_if_ne (tgt := 9) hx hb dX4_walker_4 (by decide) (fun c_1 => ?_) (fun c_1 => ?_)
  · skip
    refine lv_iload_n hx hb dX4_walker_9 rfl (lv_at hl 2 rfl) ?_
    refine lv_tableIn (off := 68) (tgt := 78) hx hb dX4_walker_10 (by decide) (by decide) (by decide +kernel) (by decide) ?_
    refine lv_aload_n hx hb dX4_walker_78 rfl (lv_at hl 0 rfl) ?_
    refine va_get (D := G) (ci := 4) (v := .ref h) (C := RX4) (T := TX4) (N := 4) hx hb hts in_wsX40 hown hev.1 hP 0 rfl rfl 0 (by decide) (hts (.fieldLink RX4 10 "PuddleMinistries" "street" "LPuddleMinistries$Street;") (List.mem_of_getElem? (i := 1) rfl)) (fun _ h9 => h9) rfl dX4_walker_79 ?_
    refine va_get (D := G) (ci := 3) (v := .ref (a 7)) (C := RX3) (T := TX3) (N := 15) hx hb hts in_wsX30 hown hev.1 hP 15 rfl rfl 7 (by decide) (hts (.fieldLink RX4 146 "PuddleMinistries$Street" "crossedBy" "[I") (List.mem_of_getElem? (i := 5) rfl)) (fun _ h9 => h9) rfl dX4_walker_82 ?_
    refine lv_iload_n hx hb dX4_walker_85 rfl (lv_at hl 1 rfl) ?_
    refine b_iald hx hb hev.1 hP 23 rfl rfl (j := w) (by omega) (by decide) dX4_walker_86 ?_
    refine lv_eqi (y := s_cb S w) rfl ?_
    exact hret _ _ _ _ hP hS dX4_walker_87
  · skip
    exact absurd c_1 (by decide)
set_option maxHeartbeats 4000000 in
set_option maxRecDepth 100000 in
theorem c_X4_walker_4 (l : Launch) (G : va_G) (ca : Nat → ClassId) (xo sl : Nat) (hp ap : Nat) (g : Nat → Int32) (np : Nat) (hh ka : Nat) (n : Nat) (rf : Nat → Option Nat) (kj : Nat) (bj : Nat → Nat) (T : SS) (h : Nat) (a : Nat → Nat) (S : SS) (O : va_W) (Z : va_W) (w : Nat) (hw : w < 6) : CtI l yX4_walker wsX4_walker ({ frames := 3, cells := 0, slots := 0, locals := 66 }) [.ref xo, .int (nI w), .int 4] G ca ((xoT xo h hp hh sl) ++ ((paT ca hp ap (g, nI np)) ++ ((hiT ca hh ka (nI n) rf) ++ ((stT ca kj bj T) ++ ((stT ca h a S) ++ (O ++ Z)))))) ((xoT xo h hp hh sl) ++ ((paT ca hp ap (g, nI np)) ++ ((hiT ca hh ka (nI n) rf) ++ ((stT ca kj bj T) ++ ((stT ca h a S) ++ (O ++ Z)))))) (mkD (hasP (s_pd S) w) 12) := by
  refine CtI.ofW (cc := cX4_walker) (maxL := 3) (rt := .int) (by decide) rfl (Nat.le_of_ble_eq_true rfl) rfl ?_
  intro pr en s m be me c A ls Q H hx hb hml hts hown hev hP hD hA hS hl hret
  have hown : s.vm.findClass RX4 = some m.cls := hown
  have hl : lv_has ls 3 [(0, .ref xo), (1, .int (nI w)), (2, .int 4)] := hl
  have in_wsX40 : ∀ w ∈ wsX40, w ∈ wsX4_walker := fun _ h => List.mem_cons_of_mem _ (List.mem_append_left _ (List.mem_append_right _ h))
  have in_wsX30 : ∀ w ∈ wsX30, w ∈ wsX4_walker := fun _ h => List.mem_cons_of_mem _ (List.mem_append_right _ h)
  refine lv_iload_n hx hb dX4_walker_0 rfl (lv_at hl 1 rfl) ?_
  refine goI0 (va_runS (As := [.int (nI w)]) (rest := []) ⟨hx, hb, hml, hown, hts⟩ (CtI.use (c_X4_isWalker_in l G ca w (by omega)) H.size) (va_cwS 1 hts gX4_walker_X4_isWalker rfl rfl rfl (by decide +kernel) ⟨Nat.le_of_ble_eq_true rfl, Nat.le_of_ble_eq_true rfl⟩) (pcW_S hev P_nil (D_nil (A := A))) rfl rfl hl.1 rfl (lv_room (Nat.le_of_ble_eq_true rfl)) dX4_walker_1 ⟨Nat.zero_le _, Nat.zero_le _⟩) hP hS hA (fun H locs hP hS => ?_)
  refine lv_if_ne (tgt := 9) hx hb dX4_walker_4 (by decide) (fun c_1 => ?_) (fun c_1 => ?_)
  · skip
    refine lv_iload_n hx hb dX4_walker_9 rfl (lv_at hl 2 rfl) ?_
    refine lv_tableIn (off := 78) (tgt := 88) hx hb dX4_walker_10 (by decide) (by decide) (by decide +kernel) (by decide) ?_
    refine lv_aload_n hx hb dX4_walker_88 rfl (lv_at hl 0 rfl) ?_
    refine va_get (D := G) (ci := 4) (v := .ref h) (C := RX4) (T := TX4) (N := 4) hx hb hts in_wsX40 hown hev.1 hP 0 rfl rfl 0 (by decide) (hts (.fieldLink RX4 10 "PuddleMinistries" "street" "LPuddleMinistries$Street;") (List.mem_of_getElem? (i := 1) rfl)) (fun _ h9 => h9) rfl dX4_walker_89 ?_
    refine lv_iload_n hx hb dX4_walker_92 rfl (lv_at hl 1 rfl) ?_
    have hP : va_P G vwCl (((xoT xo h hp hh sl) ++ ((paT ca hp ap (g, nI np)) ++ ((hiT ca hh ka (nI n) rf) ++ (stT ca kj bj T)))) ++ ((stT ca h a S) ++ (O ++ Z))) H := hP
    have hD : va_D A (((xoT xo h hp hh sl) ++ ((paT ca hp ap (g, nI np)) ++ ((hiT ca hh ka (nI n) rf) ++ (stT ca kj bj T)))) ++ ((stT ca h a S) ++ (O ++ Z))) := hD
    refine goI (va_runV (As := [.int (nI w)]) (rest := []) ⟨hx, hb, hml, hown, hts⟩ (CtI.use (c_X3_permitsOf l G ca h a S w (by omega)) H.size) (cwV 1 hts gX4_walker_X3_permitsOf rfl rfl rfl (by decide +kernel) ⟨Nat.le_of_ble_eq_true rfl, Nat.le_of_ble_eq_true rfl⟩) (pcW_V hev (P_left (P_right hP)) (D_left (D_right hD)) (q0 := 0) rfl rfl rfl) rfl rfl hl.1 rfl (lv_room (Nat.le_of_ble_eq_true rfl)) dX4_walker_93 ⟨Nat.zero_le _, Nat.zero_le _⟩) hP hD hS hA stF (fun H locs hP hD hS => ?_)
    have hP : va_P G vwCl ((xoT xo h hp hh sl) ++ ((paT ca hp ap (g, nI np)) ++ ((hiT ca hh ka (nI n) rf) ++ ((stT ca kj bj T) ++ ((stT ca h a S) ++ (O ++ Z)))))) H := hP
    have hD : va_D A ((xoT xo h hp hh sl) ++ ((paT ca hp ap (g, nI np)) ++ ((hiT ca hh ka (nI n) rf) ++ ((stT ca kj bj T) ++ ((stT ca h a S) ++ (O ++ Z)))))) := hD
    exact hret _ _ _ _ hP hS dX4_walker_96
  · skip
    exact absurd c_1 (by decide)
set_option maxHeartbeats 4000000 in
set_option maxRecDepth 100000 in
theorem c_X4_walker_5 (l : Launch) (G : va_G) (ca : Nat → ClassId) (xo sl : Nat) (hp ap : Nat) (g : Nat → Int32) (np : Nat) (hh ka : Nat) (n : Nat) (rf : Nat → Option Nat) (kj : Nat) (bj : Nat → Nat) (T : SS) (h : Nat) (a : Nat → Nat) (S : SS) (O : va_W) (Z : va_W) (w : Nat) (hw : w < 6) : CtI l yX4_walker wsX4_walker ({ frames := 5, cells := 0, slots := 0, locals := 112 }) [.ref xo, .int (nI w), .int 5] G ca ((xoT xo h hp hh sl) ++ ((paT ca hp ap (g, nI np)) ++ ((hiT ca hh ka (nI n) rf) ++ ((stT ca kj bj T) ++ ((stT ca h a S) ++ (O ++ Z)))))) ((xoT xo h hp hh sl) ++ ((paT ca hp ap (g, nI np)) ++ ((hiT ca hh ka (nI n) rf) ++ ((stT ca kj bj T) ++ ((stT ca h a S) ++ (O ++ Z)))))) (mkD (mayC S w) 12) := by
  refine CtI.ofW (cc := cX4_walker) (maxL := 3) (rt := .int) (by decide) rfl (Nat.le_of_ble_eq_true rfl) rfl ?_
  intro pr en s m be me c A ls Q H hx hb hml hts hown hev hP hD hA hS hl hret
  have hown : s.vm.findClass RX4 = some m.cls := hown
  have hl : lv_has ls 3 [(0, .ref xo), (1, .int (nI w)), (2, .int 5)] := hl
  have in_wsX40 : ∀ w ∈ wsX40, w ∈ wsX4_walker := fun _ h => List.mem_cons_of_mem _ (List.mem_append_left _ (List.mem_append_right _ h))
  have in_wsX30 : ∀ w ∈ wsX30, w ∈ wsX4_walker := fun _ h => List.mem_cons_of_mem _ (List.mem_append_right _ h)
  refine lv_iload_n hx hb dX4_walker_0 rfl (lv_at hl 1 rfl) ?_
  refine goI0 (va_runS (As := [.int (nI w)]) (rest := []) ⟨hx, hb, hml, hown, hts⟩ (CtI.use (c_X4_isWalker_in l G ca w (by omega)) H.size) (va_cwS 1 hts gX4_walker_X4_isWalker rfl rfl rfl (by decide +kernel) ⟨Nat.le_of_ble_eq_true rfl, Nat.le_of_ble_eq_true rfl⟩) (pcW_S hev P_nil (D_nil (A := A))) rfl rfl hl.1 rfl (lv_room (Nat.le_of_ble_eq_true rfl)) dX4_walker_1 ⟨Nat.zero_le _, Nat.zero_le _⟩) hP hS hA (fun H locs hP hS => ?_)
  refine lv_if_ne (tgt := 9) hx hb dX4_walker_4 (by decide) (fun c_1 => ?_) (fun c_1 => ?_)
  · skip
    refine lv_iload_n hx hb dX4_walker_9 rfl (lv_at hl 2 rfl) ?_
    refine lv_tableIn (off := 87) (tgt := 97) hx hb dX4_walker_10 (by decide) (by decide) (by decide +kernel) (by decide) ?_
    refine lv_aload_n hx hb dX4_walker_97 rfl (lv_at hl 0 rfl) ?_
    refine va_get (D := G) (ci := 4) (v := .ref h) (C := RX4) (T := TX4) (N := 4) hx hb hts in_wsX40 hown hev.1 hP 0 rfl rfl 0 (by decide) (hts (.fieldLink RX4 10 "PuddleMinistries" "street" "LPuddleMinistries$Street;") (List.mem_of_getElem? (i := 1) rfl)) (fun _ h9 => h9) rfl dX4_walker_98 ?_
    refine lv_iload_n hx hb dX4_walker_101 rfl (lv_at hl 1 rfl) ?_
    have hP : va_P G vwCl (((xoT xo h hp hh sl) ++ ((paT ca hp ap (g, nI np)) ++ ((hiT ca hh ka (nI n) rf) ++ (stT ca kj bj T)))) ++ ((stT ca h a S) ++ (O ++ Z))) H := hP
    have hD : va_D A (((xoT xo h hp hh sl) ++ ((paT ca hp ap (g, nI np)) ++ ((hiT ca hh ka (nI n) rf) ++ (stT ca kj bj T)))) ++ ((stT ca h a S) ++ (O ++ Z))) := hD
    refine goI (va_runV (As := [.int (nI w)]) (rest := []) ⟨hx, hb, hml, hown, hts⟩ (CtI.use (c_X3_allowedFor l G ca h a S w (by omega)) H.size) (cwV 1 hts gX4_walker_X3_allowedFor rfl rfl rfl (by decide +kernel) ⟨Nat.le_of_ble_eq_true rfl, Nat.le_of_ble_eq_true rfl⟩) (pcW_V hev (P_left (P_right hP)) (D_left (D_right hD)) (q0 := 0) rfl rfl rfl) rfl rfl hl.1 rfl (lv_room (Nat.le_of_ble_eq_true rfl)) dX4_walker_102 ⟨Nat.zero_le _, Nat.zero_le _⟩) hP hD hS hA stF (fun H locs hP hD hS => ?_)
    have hP : va_P G vwCl ((xoT xo h hp hh sl) ++ ((paT ca hp ap (g, nI np)) ++ ((hiT ca hh ka (nI n) rf) ++ ((stT ca kj bj T) ++ ((stT ca h a S) ++ (O ++ Z)))))) H := hP
    have hD : va_D A ((xoT xo h hp hh sl) ++ ((paT ca hp ap (g, nI np)) ++ ((hiT ca hh ka (nI n) rf) ++ ((stT ca kj bj T) ++ ((stT ca h a S) ++ (O ++ Z)))))) := hD
    exact hret _ _ _ _ hP hS dX4_walker_105
  · skip
    exact absurd c_1 (by decide)
set_option maxHeartbeats 4000000 in
set_option maxRecDepth 100000 in
theorem c_X4_walker_bad (l : Launch) (G : va_G) (ca : Nat → ClassId) (xo sl : Nat) (hp ap : Nat) (g : Nat → Int32) (np : Nat) (hh ka : Nat) (n : Nat) (rf : Nat → Option Nat) (kj : Nat) (bj : Nat → Nat) (T : SS) (h : Nat) (a : Nat → Nat) (S : SS) (O : va_W) (Z : va_W) (w : Nat) (v : Int32) (hw : w < 6) (hv : v.toInt < 0 ∨ 5 < v.toInt) : CtI l yX4_walker wsX4_walker ({ frames := 1, cells := 0, slots := 0, locals := 20 }) [.ref xo, .int (nI w), .int v] G ca ((xoT xo h hp hh sl) ++ ((paT ca hp ap (g, nI np)) ++ ((hiT ca hh ka (nI n) rf) ++ ((stT ca kj bj T) ++ ((stT ca h a S) ++ (O ++ Z)))))) ((xoT xo h hp hh sl) ++ ((paT ca hp ap (g, nI np)) ++ ((hiT ca hh ka (nI n) rf) ++ ((stT ca kj bj T) ++ ((stT ca h a S) ++ (O ++ Z)))))) (-2) := by
  refine CtI.ofW (cc := cX4_walker) (maxL := 3) (rt := .int) (by decide) rfl (Nat.le_of_ble_eq_true rfl) rfl ?_
  intro pr en s m be me c A ls Q H hx hb hml hts hown hev hP hD hA hS hl hret
  have hown : s.vm.findClass RX4 = some m.cls := hown
  have hl : lv_has ls 3 [(0, .ref xo), (1, .int (nI w)), (2, .int v)] := hl
  have in_wsX40 : ∀ w ∈ wsX40, w ∈ wsX4_walker := fun _ h => List.mem_cons_of_mem _ (List.mem_append_left _ (List.mem_append_right _ h))
  have in_wsX30 : ∀ w ∈ wsX30, w ∈ wsX4_walker := fun _ h => List.mem_cons_of_mem _ (List.mem_append_right _ h)
  refine lv_iload_n hx hb dX4_walker_0 rfl (lv_at hl 1 rfl) ?_
  refine goI0 (va_runS (As := [.int (nI w)]) (rest := []) ⟨hx, hb, hml, hown, hts⟩ (CtI.use (c_X4_isWalker_in l G ca w (by omega)) H.size) (va_cwS 1 hts gX4_walker_X4_isWalker rfl rfl rfl (by decide +kernel) ⟨Nat.le_of_ble_eq_true rfl, Nat.le_of_ble_eq_true rfl⟩) (pcW_S hev P_nil (D_nil (A := A))) rfl rfl hl.1 rfl (lv_room (Nat.le_of_ble_eq_true rfl)) dX4_walker_1 ⟨Nat.zero_le _, Nat.zero_le _⟩) hP hS hA (fun H locs hP hS => ?_)
  refine lv_if_ne (tgt := 9) hx hb dX4_walker_4 (by decide) (fun c_1 => ?_) (fun c_1 => ?_)
  · skip
    refine lv_iload_n hx hb dX4_walker_9 rfl (lv_at hl 2 rfl) ?_
    refine lv_tableOut (tgt := 106) hx hb dX4_walker_10 hv (by decide) ?_
    refine lv_bipush (v := (-2)) hx hb dX4_walker_106 (by decide) ?_
    exact hret _ _ _ _ hP hS dX4_walker_108
  · skip
    exact absurd c_1 (by decide)
set_option maxHeartbeats 4000000 in
set_option maxRecDepth 100000 in
theorem c_X4_why_outw (l : Launch) (G : va_G) (ca : Nat → ClassId) (xo sl : Nat) (hp ap : Nat) (g : Nat → Int32) (np : Nat) (hh ka : Nat) (n : Nat) (rf : Nat → Option Nat) (kj : Nat) (bj : Nat → Nat) (T : SS) (h : Nat) (a : Nat → Nat) (S : SS) (O : va_W) (Z : va_W) (x : Int32) (v : Int32) (hx0 : x < 0 ∨ nI 6 ≤ x) : CtI l yX4_why wsX4_why ({ frames := 1, cells := 0, slots := 0, locals := 20 }) [.ref xo, .int x, .int v] G ca ((xoT xo h hp hh sl) ++ ((paT ca hp ap (g, nI np)) ++ ((hiT ca hh ka (nI n) rf) ++ ((stT ca kj bj T) ++ ((stT ca h a S) ++ (O ++ Z)))))) ((xoT xo h hp hh sl) ++ ((paT ca hp ap (g, nI np)) ++ ((hiT ca hh ka (nI n) rf) ++ ((stT ca kj bj T) ++ ((stT ca h a S) ++ (O ++ Z)))))) (-1) := by
  refine CtI.ofW (cc := cX4_why) (maxL := 3) (rt := .int) (by decide) rfl (Nat.le_of_ble_eq_true rfl) rfl ?_
  intro pr en s m be me c A ls Q H hx hb hml hts hown hev hP hD hA hS hl hret
  have hown : s.vm.findClass RX4 = some m.cls := hown
  have hl : lv_has ls 3 [(0, .ref xo), (1, .int x), (2, .int v)] := hl
  have in_wsX40 : ∀ w ∈ wsX40, w ∈ wsX4_why := fun _ h => List.mem_cons_of_mem _ (List.mem_append_left _ (List.mem_append_right _ h))
  have in_wsX30 : ∀ w ∈ wsX30, w ∈ wsX4_why := fun _ h => List.mem_cons_of_mem _ (List.mem_append_right _ h)
  refine lv_iload_n hx hb dX4_why_0 rfl (lv_at hl 1 rfl) ?_
  refine goI0 (va_runS (As := [.int x]) (rest := []) ⟨hx, hb, hml, hown, hts⟩ (CtI.use (c_X4_isWalker_out l G ca x hx0) H.size) (va_cwS 1 hts gX4_why_X4_isWalker rfl rfl rfl (by decide +kernel) ⟨Nat.le_of_ble_eq_true rfl, Nat.le_of_ble_eq_true rfl⟩) (pcW_S hev P_nil (D_nil (A := A))) rfl rfl hl.1 rfl (lv_room (Nat.le_of_ble_eq_true rfl)) dX4_why_1 ⟨Nat.zero_le _, Nat.zero_le _⟩) hP hS hA (fun H locs hP hS => ?_)
  refine lv_if_eq (tgt := 14) hx hb dX4_why_4 (by decide) (fun c_1 => ?_) (fun c_1 => ?_)
  · skip
    refine lv_iconst (v := (-1)) hx hb dX4_why_14 (by decide) ?_
    exact hret _ _ _ _ hP hS dX4_why_15
  · skip
    exact absurd (by decide) c_1
set_option maxHeartbeats 4000000 in
set_option maxRecDepth 100000 in
theorem c_X4_why_outp (l : Launch) (G : va_G) (ca : Nat → ClassId) (xo sl : Nat) (hp ap : Nat) (g : Nat → Int32) (np : Nat) (hh ka : Nat) (n : Nat) (rf : Nat → Option Nat) (kj : Nat) (bj : Nat → Nat) (T : SS) (h : Nat) (a : Nat → Nat) (S : SS) (O : va_W) (Z : va_W) (w : Nat) (x : Int32) (hw : w < 6) (hx0 : x < 0 ∨ nI 12 ≤ x) : CtI l yX4_why wsX4_why ({ frames := 1, cells := 0, slots := 0, locals := 20 }) [.ref xo, .int (nI w), .int x] G ca ((xoT xo h hp hh sl) ++ ((paT ca hp ap (g, nI np)) ++ ((hiT ca hh ka (nI n) rf) ++ ((stT ca kj bj T) ++ ((stT ca h a S) ++ (O ++ Z)))))) ((xoT xo h hp hh sl) ++ ((paT ca hp ap (g, nI np)) ++ ((hiT ca hh ka (nI n) rf) ++ ((stT ca kj bj T) ++ ((stT ca h a S) ++ (O ++ Z)))))) (-1) := by
  refine CtI.ofW (cc := cX4_why) (maxL := 3) (rt := .int) (by decide) rfl (Nat.le_of_ble_eq_true rfl) rfl ?_
  intro pr en s m be me c A ls Q H hx hb hml hts hown hev hP hD hA hS hl hret
  have hown : s.vm.findClass RX4 = some m.cls := hown
  have hl : lv_has ls 3 [(0, .ref xo), (1, .int (nI w)), (2, .int x)] := hl
  have in_wsX40 : ∀ w ∈ wsX40, w ∈ wsX4_why := fun _ h => List.mem_cons_of_mem _ (List.mem_append_left _ (List.mem_append_right _ h))
  have in_wsX30 : ∀ w ∈ wsX30, w ∈ wsX4_why := fun _ h => List.mem_cons_of_mem _ (List.mem_append_right _ h)
  refine lv_iload_n hx hb dX4_why_0 rfl (lv_at hl 1 rfl) ?_
  refine goI0 (va_runS (As := [.int (nI w)]) (rest := []) ⟨hx, hb, hml, hown, hts⟩ (CtI.use (c_X4_isWalker_in l G ca w (by omega)) H.size) (va_cwS 1 hts gX4_why_X4_isWalker rfl rfl rfl (by decide +kernel) ⟨Nat.le_of_ble_eq_true rfl, Nat.le_of_ble_eq_true rfl⟩) (pcW_S hev P_nil (D_nil (A := A))) rfl rfl hl.1 rfl (lv_room (Nat.le_of_ble_eq_true rfl)) dX4_why_1 ⟨Nat.zero_le _, Nat.zero_le _⟩) hP hS hA (fun H locs hP hS => ?_)
  refine lv_if_eq (tgt := 14) hx hb dX4_why_4 (by decide) (fun c_1 => ?_) (fun c_1 => ?_)
  · skip
    exact absurd c_1 (by decide)
  · skip
    refine lv_iload_n hx hb dX4_why_7 rfl (lv_at hl 2 rfl) ?_
    refine goI0 (va_runS (As := [.int x]) (rest := []) ⟨hx, hb, hml, hown, hts⟩ (CtI.use (c_X4_isPuddle_out l G ca x hx0) H.size) (va_cwS 1 hts gX4_why_X4_isPuddle rfl rfl rfl (by decide +kernel) ⟨Nat.le_of_ble_eq_true rfl, Nat.le_of_ble_eq_true rfl⟩) (pcW_S hev P_nil (D_nil (A := A))) rfl rfl hl.1 rfl (lv_room (Nat.le_of_ble_eq_true rfl)) dX4_why_8 ⟨Nat.zero_le _, Nat.zero_le _⟩) hP hS hA (fun H locs hP hS => ?_)
    refine lv_if_ne (tgt := 16) hx hb dX4_why_11 (by decide) (fun c_2 => ?_) (fun c_2 => ?_)
    · skip
      exact absurd (by decide) c_2
    · skip
      refine lv_iconst (v := (-1)) hx hb dX4_why_14 (by decide) ?_
      exact hret _ _ _ _ hP hS dX4_why_15
set_option maxHeartbeats 4000000 in
set_option maxRecDepth 100000 in
theorem c_X4_holds_outw (l : Launch) (G : va_G) (ca : Nat → ClassId) (xo sl : Nat) (hp ap : Nat) (g : Nat → Int32) (np : Nat) (hh ka : Nat) (n : Nat) (rf : Nat → Option Nat) (kj : Nat) (bj : Nat → Nat) (T : SS) (h : Nat) (a : Nat → Nat) (S : SS) (O : va_W) (Z : va_W) (x : Int32) (v : Int32) (hx0 : x < 0 ∨ nI 6 ≤ x) : CtI l yX4_holds wsX4_holds ({ frames := 1, cells := 0, slots := 0, locals := 20 }) [.ref xo, .int x, .int v] G ca ((xoT xo h hp hh sl) ++ ((paT ca hp ap (g, nI np)) ++ ((hiT ca hh ka (nI n) rf) ++ ((stT ca kj bj T) ++ ((stT ca h a S) ++ (O ++ Z)))))) ((xoT xo h hp hh sl) ++ ((paT ca hp ap (g, nI np)) ++ ((hiT ca hh ka (nI n) rf) ++ ((stT ca kj bj T) ++ ((stT ca h a S) ++ (O ++ Z)))))) (-1) := by
  refine CtI.ofW (cc := cX4_holds) (maxL := 4) (rt := .int) (by decide) rfl (Nat.le_of_ble_eq_true rfl) rfl ?_
  intro pr en s m be me c A ls Q H hx hb hml hts hown hev hP hD hA hS hl hret
  have hown : s.vm.findClass RX4 = some m.cls := hown
  have hl : lv_has ls 4 [(0, .ref xo), (1, .int x), (2, .int v)] := hl
  have in_wsX40 : ∀ w ∈ wsX40, w ∈ wsX4_holds := fun _ h => List.mem_cons_of_mem _ (List.mem_append_left _ (List.mem_append_right _ h))
  have in_wsX30 : ∀ w ∈ wsX30, w ∈ wsX4_holds := fun _ h => List.mem_cons_of_mem _ (List.mem_append_right _ h)
  refine lv_iload_n hx hb dX4_holds_0 rfl (lv_at hl 1 rfl) ?_
  refine goI0 (va_runS (As := [.int x]) (rest := []) ⟨hx, hb, hml, hown, hts⟩ (CtI.use (c_X4_isWalker_out l G ca x hx0) H.size) (va_cwS 1 hts gX4_holds_X4_isWalker rfl rfl rfl (by decide +kernel) ⟨Nat.le_of_ble_eq_true rfl, Nat.le_of_ble_eq_true rfl⟩) (pcW_S hev P_nil (D_nil (A := A))) rfl rfl hl.1 rfl (lv_room (Nat.le_of_ble_eq_true rfl)) dX4_holds_1 ⟨Nat.zero_le _, Nat.zero_le _⟩) hP hS hA (fun H locs hP hS => ?_)
  refine lv_if_eq (tgt := 14) hx hb dX4_holds_4 (by decide) (fun c_1 => ?_) (fun c_1 => ?_)
  · skip
    refine lv_iconst (v := (-1)) hx hb dX4_holds_14 (by decide) ?_
    exact hret _ _ _ _ hP hS dX4_holds_15
  · skip
    exact absurd (by decide) c_1
set_option maxHeartbeats 4000000 in
set_option maxRecDepth 100000 in
theorem c_X4_holds_outp (l : Launch) (G : va_G) (ca : Nat → ClassId) (xo sl : Nat) (hp ap : Nat) (g : Nat → Int32) (np : Nat) (hh ka : Nat) (n : Nat) (rf : Nat → Option Nat) (kj : Nat) (bj : Nat → Nat) (T : SS) (h : Nat) (a : Nat → Nat) (S : SS) (O : va_W) (Z : va_W) (w : Nat) (x : Int32) (hw : w < 6) (hx0 : x < 0 ∨ nI 12 ≤ x) : CtI l yX4_holds wsX4_holds ({ frames := 1, cells := 0, slots := 0, locals := 20 }) [.ref xo, .int (nI w), .int x] G ca ((xoT xo h hp hh sl) ++ ((paT ca hp ap (g, nI np)) ++ ((hiT ca hh ka (nI n) rf) ++ ((stT ca kj bj T) ++ ((stT ca h a S) ++ (O ++ Z)))))) ((xoT xo h hp hh sl) ++ ((paT ca hp ap (g, nI np)) ++ ((hiT ca hh ka (nI n) rf) ++ ((stT ca kj bj T) ++ ((stT ca h a S) ++ (O ++ Z)))))) (-1) := by
  refine CtI.ofW (cc := cX4_holds) (maxL := 4) (rt := .int) (by decide) rfl (Nat.le_of_ble_eq_true rfl) rfl ?_
  intro pr en s m be me c A ls Q H hx hb hml hts hown hev hP hD hA hS hl hret
  have hown : s.vm.findClass RX4 = some m.cls := hown
  have hl : lv_has ls 4 [(0, .ref xo), (1, .int (nI w)), (2, .int x)] := hl
  have in_wsX40 : ∀ w ∈ wsX40, w ∈ wsX4_holds := fun _ h => List.mem_cons_of_mem _ (List.mem_append_left _ (List.mem_append_right _ h))
  have in_wsX30 : ∀ w ∈ wsX30, w ∈ wsX4_holds := fun _ h => List.mem_cons_of_mem _ (List.mem_append_right _ h)
  refine lv_iload_n hx hb dX4_holds_0 rfl (lv_at hl 1 rfl) ?_
  refine goI0 (va_runS (As := [.int (nI w)]) (rest := []) ⟨hx, hb, hml, hown, hts⟩ (CtI.use (c_X4_isWalker_in l G ca w (by omega)) H.size) (va_cwS 1 hts gX4_holds_X4_isWalker rfl rfl rfl (by decide +kernel) ⟨Nat.le_of_ble_eq_true rfl, Nat.le_of_ble_eq_true rfl⟩) (pcW_S hev P_nil (D_nil (A := A))) rfl rfl hl.1 rfl (lv_room (Nat.le_of_ble_eq_true rfl)) dX4_holds_1 ⟨Nat.zero_le _, Nat.zero_le _⟩) hP hS hA (fun H locs hP hS => ?_)
  refine lv_if_eq (tgt := 14) hx hb dX4_holds_4 (by decide) (fun c_1 => ?_) (fun c_1 => ?_)
  · skip
    exact absurd c_1 (by decide)
  · skip
    refine lv_iload_n hx hb dX4_holds_7 rfl (lv_at hl 2 rfl) ?_
    refine goI0 (va_runS (As := [.int x]) (rest := []) ⟨hx, hb, hml, hown, hts⟩ (CtI.use (c_X4_isPuddle_out l G ca x hx0) H.size) (va_cwS 1 hts gX4_holds_X4_isPuddle rfl rfl rfl (by decide +kernel) ⟨Nat.le_of_ble_eq_true rfl, Nat.le_of_ble_eq_true rfl⟩) (pcW_S hev P_nil (D_nil (A := A))) rfl rfl hl.1 rfl (lv_room (Nat.le_of_ble_eq_true rfl)) dX4_holds_8 ⟨Nat.zero_le _, Nat.zero_le _⟩) hP hS hA (fun H locs hP hS => ?_)
    refine lv_if_ne (tgt := 16) hx hb dX4_holds_11 (by decide) (fun c_2 => ?_) (fun c_2 => ?_)
    · skip
      exact absurd (by decide) c_2
    · skip
      refine lv_iconst (v := (-1)) hx hb dX4_holds_14 (by decide) ?_
      exact hret _ _ _ _ hP hS dX4_holds_15
set_option maxHeartbeats 4000000 in
set_option maxRecDepth 100000 in
theorem c_X4_why_ok (l : Launch) (G : va_G) (ca : Nat → ClassId) (xo sl : Nat) (hp ap : Nat) (g : Nat → Int32) (np : Nat) (hh ka : Nat) (n : Nat) (rf : Nat → Option Nat) (kj : Nat) (bj : Nat → Nat) (T : SS) (h : Nat) (a : Nat → Nat) (S : SS) (O : va_W) (Z : va_W) (w : Nat) (p : Nat) (hw : w < 6) (hp1 : p < 12) : CtI l yX4_why wsX4_why ({ frames := 3, cells := 0, slots := 0, locals := 67 }) [.ref xo, .int (nI w), .int (nI p)] G ca ((xoT xo h hp hh sl) ++ ((paT ca hp ap (g, nI np)) ++ ((hiT ca hh ka (nI n) rf) ++ ((stT ca kj bj T) ++ ((stT ca h a S) ++ (O ++ Z)))))) ((xoT xo h hp hh sl) ++ ((paT ca hp ap (g, nI np)) ++ ((hiT ca hh ka (nI n) rf) ++ ((stT ca kj bj T) ++ ((stT ca h a S) ++ (O ++ Z)))))) (rsnA S w p (s_sh S w)) := by
  refine CtI.ofW (cc := cX4_why) (maxL := 3) (rt := .int) (by decide) rfl (Nat.le_of_ble_eq_true rfl) rfl ?_
  intro pr en s m be me c A ls Q H hx hb hml hts hown hev hP hD hA hS hl hret
  have hown : s.vm.findClass RX4 = some m.cls := hown
  have hl : lv_has ls 3 [(0, .ref xo), (1, .int (nI w)), (2, .int (nI p))] := hl
  have in_wsX40 : ∀ w ∈ wsX40, w ∈ wsX4_why := fun _ h => List.mem_cons_of_mem _ (List.mem_append_left _ (List.mem_append_right _ h))
  have in_wsX30 : ∀ w ∈ wsX30, w ∈ wsX4_why := fun _ h => List.mem_cons_of_mem _ (List.mem_append_right _ h)
  refine lv_iload_n hx hb dX4_why_0 rfl (lv_at hl 1 rfl) ?_
  refine goI0 (va_runS (As := [.int (nI w)]) (rest := []) ⟨hx, hb, hml, hown, hts⟩ (CtI.use (c_X4_isWalker_in l G ca w (by omega)) H.size) (va_cwS 1 hts gX4_why_X4_isWalker rfl rfl rfl (by decide +kernel) ⟨Nat.le_of_ble_eq_true rfl, Nat.le_of_ble_eq_true rfl⟩) (pcW_S hev P_nil (D_nil (A := A))) rfl rfl hl.1 rfl (lv_room (Nat.le_of_ble_eq_true rfl)) dX4_why_1 ⟨Nat.zero_le _, Nat.zero_le _⟩) hP hS hA (fun H locs hP hS => ?_)
  refine lv_if_eq (tgt := 14) hx hb dX4_why_4 (by decide) (fun c_1 => ?_) (fun c_1 => ?_)
  · skip
    exact absurd c_1 (by decide)
  · skip
    refine lv_iload_n hx hb dX4_why_7 rfl (lv_at hl 2 rfl) ?_
    refine goI0 (va_runS (As := [.int (nI p)]) (rest := []) ⟨hx, hb, hml, hown, hts⟩ (CtI.use (c_X4_isPuddle_in l G ca p (by omega)) H.size) (va_cwS 1 hts gX4_why_X4_isPuddle rfl rfl rfl (by decide +kernel) ⟨Nat.le_of_ble_eq_true rfl, Nat.le_of_ble_eq_true rfl⟩) (pcW_S hev P_nil (D_nil (A := A))) rfl rfl hl.1 rfl (lv_room (Nat.le_of_ble_eq_true rfl)) dX4_why_8 ⟨Nat.zero_le _, Nat.zero_le _⟩) hP hS hA (fun H locs hP hS => ?_)
    refine lv_if_ne (tgt := 16) hx hb dX4_why_11 (by decide) (fun c_2 => ?_) (fun c_2 => ?_)
    · skip
      refine lv_aload_n hx hb dX4_why_16 rfl (lv_at hl 0 rfl) ?_
      refine va_get (D := G) (ci := 4) (v := .ref h) (C := RX4) (T := TX4) (N := 4) hx hb hts in_wsX40 hown hev.1 hP 0 rfl rfl 0 (by decide) (hts (.fieldLink RX4 10 "PuddleMinistries" "street" "LPuddleMinistries$Street;") (List.mem_of_getElem? (i := 1) rfl)) (fun _ h9 => h9) rfl dX4_why_17 ?_
      refine lv_iload_n hx hb dX4_why_20 rfl (lv_at hl 1 rfl) ?_
      refine lv_iload_n hx hb dX4_why_21 rfl (lv_at hl 2 rfl) ?_
      refine lv_aload_n hx hb dX4_why_22 rfl (lv_at hl 0 rfl) ?_
      refine va_get (D := G) (ci := 4) (v := .ref h) (C := RX4) (T := TX4) (N := 4) hx hb hts in_wsX40 hown hev.1 hP 0 rfl rfl 0 (by decide) (hts (.fieldLink RX4 10 "PuddleMinistries" "street" "LPuddleMinistries$Street;") (List.mem_of_getElem? (i := 1) rfl)) (fun _ h9 => h9) rfl dX4_why_23 ?_
      refine va_get (D := G) (ci := 3) (v := .ref (a 4)) (C := RX3) (T := TX3) (N := 15) hx hb hts in_wsX30 hown hev.1 hP 15 rfl rfl 4 (by decide) (hts (.fieldLink RX4 75 "PuddleMinistries$Street" "shoesOf" "[I") (List.mem_of_getElem? (i := 2) rfl)) (fun _ h9 => h9) rfl dX4_why_26 ?_
      refine lv_iload_n hx hb dX4_why_29 rfl (lv_at hl 1 rfl) ?_
      refine b_iald hx hb hev.1 hP 20 rfl rfl (j := w) (by omega) (by decide) dX4_why_30 ?_
      have hP : va_P G vwCl (((xoT xo h hp hh sl) ++ ((paT ca hp ap (g, nI np)) ++ ((hiT ca hh ka (nI n) rf) ++ (stT ca kj bj T)))) ++ ((stT ca h a S) ++ (O ++ Z))) H := hP
      have hD : va_D A (((xoT xo h hp hh sl) ++ ((paT ca hp ap (g, nI np)) ++ ((hiT ca hh ka (nI n) rf) ++ (stT ca kj bj T)))) ++ ((stT ca h a S) ++ (O ++ Z))) := hD
      refine goI (va_runV (As := [.int (nI w), .int (nI p), .int ((s_sh S) w)]) (rest := []) ⟨hx, hb, hml, hown, hts⟩ (CtI.use (c_X3_reasonAgainst l G ca h a S w p ((s_sh S) w) (by omega) (by omega)) H.size) (cwV 3 hts gX4_why_X3_reasonAgainst rfl rfl rfl (by decide +kernel) ⟨Nat.le_of_ble_eq_true rfl, Nat.le_of_ble_eq_true rfl⟩) (pcW_V hev (P_left (P_right hP)) (D_left (D_right hD)) (q0 := 0) rfl rfl rfl) rfl rfl hl.1 rfl (lv_room (Nat.le_of_ble_eq_true rfl)) dX4_why_31 ⟨Nat.zero_le _, Nat.zero_le _⟩) hP hD hS hA stF (fun H locs hP hD hS => ?_)
      have hP : va_P G vwCl ((xoT xo h hp hh sl) ++ ((paT ca hp ap (g, nI np)) ++ ((hiT ca hh ka (nI n) rf) ++ ((stT ca kj bj T) ++ ((stT ca h a S) ++ (O ++ Z)))))) H := hP
      have hD : va_D A ((xoT xo h hp hh sl) ++ ((paT ca hp ap (g, nI np)) ++ ((hiT ca hh ka (nI n) rf) ++ ((stT ca kj bj T) ++ ((stT ca h a S) ++ (O ++ Z)))))) := hD
      refine lv_eqi (y := rsnA S w p (s_sh S w)) rfl ?_
      exact hret _ _ _ _ hP hS dX4_why_34
    · skip
      exact absurd c_2 (by decide)
set_option maxHeartbeats 4000000 in
set_option maxRecDepth 100000 in
theorem c_X4_holds_ok (l : Launch) (G : va_G) (ca : Nat → ClassId) (xo sl : Nat) (hp ap : Nat) (g : Nat → Int32) (np : Nat) (hh ka : Nat) (n : Nat) (rf : Nat → Option Nat) (kj : Nat) (bj : Nat → Nat) (T : SS) (h : Nat) (a : Nat → Nat) (S : SS) (O : va_W) (Z : va_W) (w : Nat) (p : Nat) (hw : w < 6) (hp1 : p < 12) : CtI l yX4_holds wsX4_holds ({ frames := 1, cells := 0, slots := 0, locals := 21 }) [.ref xo, .int (nI w), .int (nI p)] G ca ((xoT xo h hp hh sl) ++ ((paT ca hp ap (g, nI np)) ++ ((hiT ca hh ka (nI n) rf) ++ ((stT ca kj bj T) ++ ((stT ca h a S) ++ (O ++ Z)))))) ((xoT xo h hp hh sl) ++ ((paT ca hp ap (g, nI np)) ++ ((hiT ca hh ka (nI n) rf) ++ ((stT ca kj bj T) ++ ((stT ca h a S) ++ (O ++ Z)))))) (if s_pd S (w * 12 + p) ≤ 0 then (-6) else s_pd S (w * 12 + p)) := by
  refine CtI.ofW (cc := cX4_holds) (maxL := 4) (rt := .int) (by decide) rfl (Nat.le_of_ble_eq_true rfl) rfl ?_
  intro pr en s m be me c A ls Q H hx hb hml hts hown hev hP hD hA hS hl hret
  have hown : s.vm.findClass RX4 = some m.cls := hown
  have hl : lv_has ls 4 [(0, .ref xo), (1, .int (nI w)), (2, .int (nI p))] := hl
  have in_wsX40 : ∀ w ∈ wsX40, w ∈ wsX4_holds := fun _ h => List.mem_cons_of_mem _ (List.mem_append_left _ (List.mem_append_right _ h))
  have in_wsX30 : ∀ w ∈ wsX30, w ∈ wsX4_holds := fun _ h => List.mem_cons_of_mem _ (List.mem_append_right _ h)
  refine lv_iload_n hx hb dX4_holds_0 rfl (lv_at hl 1 rfl) ?_
  refine goI0 (va_runS (As := [.int (nI w)]) (rest := []) ⟨hx, hb, hml, hown, hts⟩ (CtI.use (c_X4_isWalker_in l G ca w (by omega)) H.size) (va_cwS 1 hts gX4_holds_X4_isWalker rfl rfl rfl (by decide +kernel) ⟨Nat.le_of_ble_eq_true rfl, Nat.le_of_ble_eq_true rfl⟩) (pcW_S hev P_nil (D_nil (A := A))) rfl rfl hl.1 rfl (lv_room (Nat.le_of_ble_eq_true rfl)) dX4_holds_1 ⟨Nat.zero_le _, Nat.zero_le _⟩) hP hS hA (fun H locs hP hS => ?_)
  refine lv_if_eq (tgt := 14) hx hb dX4_holds_4 (by decide) (fun c_1 => ?_) (fun c_1 => ?_)
  · skip
    exact absurd c_1 (by decide)
  · skip
    refine lv_iload_n hx hb dX4_holds_7 rfl (lv_at hl 2 rfl) ?_
    refine goI0 (va_runS (As := [.int (nI p)]) (rest := []) ⟨hx, hb, hml, hown, hts⟩ (CtI.use (c_X4_isPuddle_in l G ca p (by omega)) H.size) (va_cwS 1 hts gX4_holds_X4_isPuddle rfl rfl rfl (by decide +kernel) ⟨Nat.le_of_ble_eq_true rfl, Nat.le_of_ble_eq_true rfl⟩) (pcW_S hev P_nil (D_nil (A := A))) rfl rfl hl.1 rfl (lv_room (Nat.le_of_ble_eq_true rfl)) dX4_holds_8 ⟨Nat.zero_le _, Nat.zero_le _⟩) hP hS hA (fun H locs hP hS => ?_)
    refine lv_if_ne (tgt := 16) hx hb dX4_holds_11 (by decide) (fun c_2 => ?_) (fun c_2 => ?_)
    · skip
      refine lv_aload_n hx hb dX4_holds_16 rfl (lv_at hl 0 rfl) ?_
      refine va_get (D := G) (ci := 4) (v := .ref h) (C := RX4) (T := TX4) (N := 4) hx hb hts in_wsX40 hown hev.1 hP 0 rfl rfl 0 (by decide) (hts (.fieldLink RX4 10 "PuddleMinistries" "street" "LPuddleMinistries$Street;") (List.mem_of_getElem? (i := 1) rfl)) (fun _ h9 => h9) rfl dX4_holds_17 ?_
      refine va_get (D := G) (ci := 3) (v := .ref (a 8)) (C := RX3) (T := TX3) (N := 15) hx hb hts in_wsX30 hown hev.1 hP 15 rfl rfl 8 (by decide) (hts (.fieldLink RX4 78 "PuddleMinistries$Street" "permitDays" "[I") (List.mem_of_getElem? (i := 2) rfl)) (fun _ h9 => h9) rfl dX4_holds_20 ?_
      refine lv_iload_n hx hb dX4_holds_23 rfl (lv_at hl 1 rfl) ?_
      refine lv_iload_n hx hb dX4_holds_24 rfl (lv_at hl 2 rfl) ?_
      refine goI0 (va_runS (As := [.int (nI w), .int (nI p)]) (rest := [.ref (a 8)]) ⟨hx, hb, hml, hown, hts⟩ (CtI.use (c_X4_placeOf l G ca w p) H.size) (va_cwS 2 hts gX4_holds_X4_placeOf rfl rfl rfl (by decide +kernel) ⟨Nat.le_of_ble_eq_true rfl, Nat.le_of_ble_eq_true rfl⟩) (pcW_S hev P_nil (D_nil (A := A))) rfl rfl hl.1 rfl (lv_room (Nat.le_of_ble_eq_true rfl)) dX4_holds_25 ⟨Nat.zero_le _, Nat.zero_le _⟩) hP hS hA (fun H locs hP hS => ?_)
      refine b_iald hx hb hev.1 hP 24 rfl rfl (j := (w * 12 + p)) (by omega) (by decide) dX4_holds_28 ?_
      refine lv_istore_n (lv' := [(3, .int ((s_pd S) (w * 12 + p))), (0, .ref xo), (1, .int (nI w)), (2, .int (nI p))]) hx hb dX4_holds_29 rfl hl (by decide) rfl (fun ls hl => ?_)
      refine lv_iload_n hx hb dX4_holds_30 rfl (lv_at hl 0 rfl) ?_
      refine lv_if_le (tgt := 38) hx hb dX4_holds_31 (by decide) (fun c_3 => ?_) (fun c_3 => ?_)
      · skip
        refine lv_bipush (v := (-6)) hx hb dX4_holds_38 (by decide) ?_
        refine lv_eqi (y := if s_pd S (w * 12 + p) ≤ 0 then (-6) else s_pd S (w * 12 + p)) (by rw [if_pos c_3]) ?_
        exact hret _ _ _ _ hP hS dX4_holds_40
      · skip
        refine lv_iload_n hx hb dX4_holds_34 rfl (lv_at hl 0 rfl) ?_
        refine lv_goto (tgt := 40) hx hb dX4_holds_35 (by decide) ?_
        refine lv_eqi (y := if s_pd S (w * 12 + p) ≤ 0 then (-6) else s_pd S (w * 12 + p)) (by rw [if_neg c_3]) ?_
        exact hret _ _ _ _ hP hS dX4_holds_40
    · skip
      exact absurd c_2 (by decide)
set_option maxHeartbeats 4000000 in
set_option maxRecDepth 100000 in
theorem c_X4_count_0 (l : Launch) (G : va_G) (ca : Nat → ClassId) (xo sl : Nat) (hp ap : Nat) (g : Nat → Int32) (np : Nat) (hh ka : Nat) (n : Nat) (rf : Nat → Option Nat) (kj : Nat) (bj : Nat → Nat) (T : SS) (h : Nat) (a : Nat → Nat) (S : SS) (O : va_W) (Z : va_W) (k : Nat) (hk : k < 4) : CtI l yX4_count wsX4_count ({ frames := 0, cells := 0, slots := 0, locals := 0 }) [.ref xo, .int (nI k)] G ca ((xoT xo h hp hh sl) ++ ((paT ca hp ap (g, nI np)) ++ ((hiT ca hh ka (nI n) rf) ++ ((stT ca kj bj T) ++ ((stT ca h a S) ++ (O ++ Z)))))) ((xoT xo h hp hh sl) ++ ((paT ca hp ap (g, nI np)) ++ ((hiT ca hh ka (nI n) rf) ++ ((stT ca kj bj T) ++ ((stT ca h a S) ++ (O ++ Z)))))) (s_se S k) := by
  refine CtI.ofW (cc := cX4_count) (maxL := 2) (rt := .int) (by decide) rfl (Nat.le_of_ble_eq_true rfl) rfl ?_
  intro pr en s m be me c A ls Q H hx hb hml hts hown hev hP hD hA hS hl hret
  have hown : s.vm.findClass RX4 = some m.cls := hown
  have hl : lv_has ls 2 [(0, .ref xo), (1, .int (nI k))] := hl
  have in_wsX40 : ∀ w ∈ wsX40, w ∈ wsX4_count := fun _ h => List.mem_cons_of_mem _ (List.mem_append_left _ (List.mem_append_left _ (List.mem_append_left _ (List.mem_append_right _ h))))
  have in_wsX30 : ∀ w ∈ wsX30, w ∈ wsX4_count := fun _ h => List.mem_cons_of_mem _ (List.mem_append_left _ (List.mem_append_left _ (List.mem_append_right _ h)))
  have in_wsX10 : ∀ w ∈ wsX10, w ∈ wsX4_count := fun _ h => List.mem_cons_of_mem _ (List.mem_append_left _ (List.mem_append_right _ h))
  have in_wsX00 : ∀ w ∈ wsX00, w ∈ wsX4_count := fun _ h => List.mem_cons_of_mem _ (List.mem_append_right _ h)
  refine lv_iload_n hx hb dX4_count_0 rfl (lv_at hl 1 rfl) ?_
  refine lv_if_lt (tgt := 19) hx hb dX4_count_1 (by decide) (fun c_1 => ?_) (fun c_1 => ?_)
  · skip
    exact absurd c_1 (nI_pos (by omega))
  · skip
    refine lv_iload_n hx hb dX4_count_4 rfl (lv_at hl 1 rfl) ?_
    refine lv_iconst (v := nI 4) hx hb dX4_count_5 (by decide) ?_
    refine lv_icmp_ge (tgt := 19) hx hb dX4_count_6 (by decide) (fun c_2 => ?_) (fun c_2 => ?_)
    · skip
      exact absurd c_2 (nI_ge (by omega) (by omega))
    · skip
      refine lv_aload_n hx hb dX4_count_9 rfl (lv_at hl 0 rfl) ?_
      refine va_get (D := G) (ci := 4) (v := .ref h) (C := RX4) (T := TX4) (N := 4) hx hb hts in_wsX40 hown hev.1 hP 0 rfl rfl 0 (by decide) (hts (.fieldLink RX4 10 "PuddleMinistries" "street" "LPuddleMinistries$Street;") (List.mem_of_getElem? (i := 1) rfl)) (fun _ h9 => h9) rfl dX4_count_10 ?_
      refine va_get (D := G) (ci := 3) (v := .ref (a 0)) (C := RX3) (T := TX3) (N := 15) hx hb hts in_wsX30 hown hev.1 hP 15 rfl rfl 0 (by decide) (hts (.fieldLink RX4 48 "PuddleMinistries$Street" "settings" "[I") (List.mem_of_getElem? (i := 2) rfl)) (fun _ h9 => h9) rfl dX4_count_13 ?_
      refine lv_iload_n hx hb dX4_count_16 rfl (lv_at hl 1 rfl) ?_
      refine b_iald hx hb hev.1 hP 16 rfl rfl (j := k) (by omega) (by decide) dX4_count_17 ?_
      refine lv_eqi (y := s_se S k) rfl ?_
      exact hret _ _ _ _ hP hS dX4_count_18
set_option maxHeartbeats 4000000 in
set_option maxRecDepth 100000 in
theorem c_X4_count_4 (l : Launch) (G : va_G) (ca : Nat → ClassId) (xo sl : Nat) (hp ap : Nat) (g : Nat → Int32) (np : Nat) (hh ka : Nat) (n : Nat) (rf : Nat → Option Nat) (kj : Nat) (bj : Nat → Nat) (T : SS) (h : Nat) (a : Nat → Nat) (S : SS) (O : va_W) (Z : va_W) : CtI l yX4_count wsX4_count ({ frames := 0, cells := 0, slots := 0, locals := 0 }) [.ref xo, .int 4] G ca ((xoT xo h hp hh sl) ++ ((paT ca hp ap (g, nI np)) ++ ((hiT ca hh ka (nI n) rf) ++ ((stT ca kj bj T) ++ ((stT ca h a S) ++ (O ++ Z)))))) ((xoT xo h hp hh sl) ++ ((paT ca hp ap (g, nI np)) ++ ((hiT ca hh ka (nI n) rf) ++ ((stT ca kj bj T) ++ ((stT ca h a S) ++ (O ++ Z)))))) (s_dy S) := by
  refine CtI.ofW (cc := cX4_count) (maxL := 2) (rt := .int) (by decide) rfl (Nat.le_of_ble_eq_true rfl) rfl ?_
  intro pr en s m be me c A ls Q H hx hb hml hts hown hev hP hD hA hS hl hret
  have hown : s.vm.findClass RX4 = some m.cls := hown
  have hl : lv_has ls 2 [(0, .ref xo), (1, .int 4)] := hl
  have in_wsX40 : ∀ w ∈ wsX40, w ∈ wsX4_count := fun _ h => List.mem_cons_of_mem _ (List.mem_append_left _ (List.mem_append_left _ (List.mem_append_left _ (List.mem_append_right _ h))))
  have in_wsX30 : ∀ w ∈ wsX30, w ∈ wsX4_count := fun _ h => List.mem_cons_of_mem _ (List.mem_append_left _ (List.mem_append_left _ (List.mem_append_right _ h)))
  have in_wsX10 : ∀ w ∈ wsX10, w ∈ wsX4_count := fun _ h => List.mem_cons_of_mem _ (List.mem_append_left _ (List.mem_append_right _ h))
  have in_wsX00 : ∀ w ∈ wsX00, w ∈ wsX4_count := fun _ h => List.mem_cons_of_mem _ (List.mem_append_right _ h)
  refine lv_iload_n hx hb dX4_count_0 rfl (lv_at hl 1 rfl) ?_
  refine lv_if_lt (tgt := 19) hx hb dX4_count_1 (by decide) (fun c_1 => ?_) (fun c_1 => ?_)
  · skip
    exact absurd c_1 (by decide)
  · skip
    refine lv_iload_n hx hb dX4_count_4 rfl (lv_at hl 1 rfl) ?_
    refine lv_iconst (v := 4) hx hb dX4_count_5 (by decide) ?_
    refine lv_icmp_ge (tgt := 19) hx hb dX4_count_6 (by decide) (fun c_2 => ?_) (fun c_2 => ?_)
    · skip
      refine lv_iload_n hx hb dX4_count_19 rfl (lv_at hl 1 rfl) ?_
      refine lv_tableIn (off := 64) (tgt := 84) hx hb dX4_count_20 (by decide) (by decide) (by decide +kernel) (by decide) ?_
      refine lv_aload_n hx hb dX4_count_84 rfl (lv_at hl 0 rfl) ?_
      refine va_get (D := G) (ci := 4) (v := .ref h) (C := RX4) (T := TX4) (N := 4) hx hb hts in_wsX40 hown hev.1 hP 0 rfl rfl 0 (by decide) (hts (.fieldLink RX4 10 "PuddleMinistries" "street" "LPuddleMinistries$Street;") (List.mem_of_getElem? (i := 1) rfl)) (fun _ h9 => h9) rfl dX4_count_85 ?_
      refine va_get (D := G) (ci := 3) (v := .int (s_dy S)) (C := RX3) (T := TX3) (N := 15) hx hb hts in_wsX30 hown hev.1 hP 15 rfl rfl 11 (by decide) (hts (.fieldLink RX4 110 "PuddleMinistries$Street" "days" "I") (List.mem_of_getElem? (i := 3) rfl)) (fun _ h9 => h9) rfl dX4_count_88 ?_
      exact hret _ _ _ _ hP hS dX4_count_91
    · skip
      exact absurd (by decide) c_2
set_option maxHeartbeats 4000000 in
set_option maxRecDepth 100000 in
theorem c_X4_count_5 (l : Launch) (G : va_G) (ca : Nat → ClassId) (xo sl : Nat) (hp ap : Nat) (g : Nat → Int32) (np : Nat) (hh ka : Nat) (n : Nat) (rf : Nat → Option Nat) (kj : Nat) (bj : Nat → Nat) (T : SS) (h : Nat) (a : Nat → Nat) (S : SS) (O : va_W) (Z : va_W) : CtI l yX4_count wsX4_count ({ frames := 1, cells := 0, slots := 0, locals := 25 }) [.ref xo, .int 5] G ca ((xoT xo h hp hh sl) ++ ((paT ca hp ap (g, nI np)) ++ ((hiT ca hh ka (nI n) rf) ++ ((stT ca kj bj T) ++ ((stT ca h a S) ++ (O ++ Z)))))) ((xoT xo h hp hh sl) ++ ((paT ca hp ap (g, nI np)) ++ ((hiT ca hh ka (nI n) rf) ++ ((stT ca kj bj T) ++ ((stT ca h a S) ++ (O ++ Z)))))) (smD (s_wa S) 12) := by
  refine CtI.ofW (cc := cX4_count) (maxL := 2) (rt := .int) (by decide) rfl (Nat.le_of_ble_eq_true rfl) rfl ?_
  intro pr en s m be me c A ls Q H hx hb hml hts hown hev hP hD hA hS hl hret
  have hown : s.vm.findClass RX4 = some m.cls := hown
  have hl : lv_has ls 2 [(0, .ref xo), (1, .int 5)] := hl
  have in_wsX40 : ∀ w ∈ wsX40, w ∈ wsX4_count := fun _ h => List.mem_cons_of_mem _ (List.mem_append_left _ (List.mem_append_left _ (List.mem_append_left _ (List.mem_append_right _ h))))
  have in_wsX30 : ∀ w ∈ wsX30, w ∈ wsX4_count := fun _ h => List.mem_cons_of_mem _ (List.mem_append_left _ (List.mem_append_left _ (List.mem_append_right _ h)))
  have in_wsX10 : ∀ w ∈ wsX10, w ∈ wsX4_count := fun _ h => List.mem_cons_of_mem _ (List.mem_append_left _ (List.mem_append_right _ h))
  have in_wsX00 : ∀ w ∈ wsX00, w ∈ wsX4_count := fun _ h => List.mem_cons_of_mem _ (List.mem_append_right _ h)
  refine lv_iload_n hx hb dX4_count_0 rfl (lv_at hl 1 rfl) ?_
  refine lv_if_lt (tgt := 19) hx hb dX4_count_1 (by decide) (fun c_1 => ?_) (fun c_1 => ?_)
  · skip
    exact absurd c_1 (by decide)
  · skip
    refine lv_iload_n hx hb dX4_count_4 rfl (lv_at hl 1 rfl) ?_
    refine lv_iconst (v := 4) hx hb dX4_count_5 (by decide) ?_
    refine lv_icmp_ge (tgt := 19) hx hb dX4_count_6 (by decide) (fun c_2 => ?_) (fun c_2 => ?_)
    · skip
      refine lv_iload_n hx hb dX4_count_19 rfl (lv_at hl 1 rfl) ?_
      refine lv_tableIn (off := 72) (tgt := 92) hx hb dX4_count_20 (by decide) (by decide) (by decide +kernel) (by decide) ?_
      refine lv_aload_n hx hb dX4_count_92 rfl (lv_at hl 0 rfl) ?_
      refine va_get (D := G) (ci := 4) (v := .ref h) (C := RX4) (T := TX4) (N := 4) hx hb hts in_wsX40 hown hev.1 hP 0 rfl rfl 0 (by decide) (hts (.fieldLink RX4 10 "PuddleMinistries" "street" "LPuddleMinistries$Street;") (List.mem_of_getElem? (i := 1) rfl)) (fun _ h9 => h9) rfl dX4_count_93 ?_
      refine va_get (D := G) (ci := 3) (v := .ref (a 2)) (C := RX3) (T := TX3) (N := 15) hx hb hts in_wsX30 hown hev.1 hP 15 rfl rfl 2 (by decide) (hts (.fieldLink RX4 65 "PuddleMinistries$Street" "waters" "[I") (List.mem_of_getElem? (i := 4) rfl)) (fun _ h9 => h9) rfl dX4_count_96 ?_
      refine goIw (va_runS (As := [.ref (a 2)]) (rest := []) ⟨hx, hb, hml, hown, hts⟩ (CtI.use (c_X4_sum l G ca ((xoT xo h hp hh sl) ++ ((paT ca hp ap (g, nI np)) ++ ((hiT ca hh ka (nI n) rf) ++ ((stT ca kj bj T) ++ ((stT ca h a S) ++ (O ++ Z)))))) 18 (a 2) 12 (s_wa S) rfl (by decide)) H.size) (va_cwS 1 hts gX4_count_X4_sum rfl rfl rfl (by decide +kernel) ⟨Nat.le_of_ble_eq_true rfl, Nat.le_of_ble_eq_true rfl⟩) (pcW_S hev hP hD) rfl rfl hl.1 rfl (lv_room (Nat.le_of_ble_eq_true rfl)) dX4_count_99 ⟨Nat.zero_le _, Nat.zero_le _⟩) hD hS hA rfl (fun H locs hP hD hS => ?_)
      exact hret _ _ _ _ hP hS dX4_count_102
    · skip
      exact absurd (by decide) c_2
set_option maxHeartbeats 4000000 in
set_option maxRecDepth 100000 in
theorem c_X4_count_6 (l : Launch) (G : va_G) (ca : Nat → ClassId) (xo sl : Nat) (hp ap : Nat) (g : Nat → Int32) (np : Nat) (hh ka : Nat) (n : Nat) (rf : Nat → Option Nat) (kj : Nat) (bj : Nat → Nat) (T : SS) (h : Nat) (a : Nat → Nat) (S : SS) (O : va_W) (Z : va_W) : CtI l yX4_count wsX4_count ({ frames := 0, cells := 0, slots := 0, locals := 0 }) [.ref xo, .int 6] G ca ((xoT xo h hp hh sl) ++ ((paT ca hp ap (g, nI np)) ++ ((hiT ca hh ka (nI n) rf) ++ ((stT ca kj bj T) ++ ((stT ca h a S) ++ (O ++ Z)))))) ((xoT xo h hp hh sl) ++ ((paT ca hp ap (g, nI np)) ++ ((hiT ca hh ka (nI n) rf) ++ ((stT ca kj bj T) ++ ((stT ca h a S) ++ (O ++ Z)))))) (s_fe S) := by
  refine CtI.ofW (cc := cX4_count) (maxL := 2) (rt := .int) (by decide) rfl (Nat.le_of_ble_eq_true rfl) rfl ?_
  intro pr en s m be me c A ls Q H hx hb hml hts hown hev hP hD hA hS hl hret
  have hown : s.vm.findClass RX4 = some m.cls := hown
  have hl : lv_has ls 2 [(0, .ref xo), (1, .int 6)] := hl
  have in_wsX40 : ∀ w ∈ wsX40, w ∈ wsX4_count := fun _ h => List.mem_cons_of_mem _ (List.mem_append_left _ (List.mem_append_left _ (List.mem_append_left _ (List.mem_append_right _ h))))
  have in_wsX30 : ∀ w ∈ wsX30, w ∈ wsX4_count := fun _ h => List.mem_cons_of_mem _ (List.mem_append_left _ (List.mem_append_left _ (List.mem_append_right _ h)))
  have in_wsX10 : ∀ w ∈ wsX10, w ∈ wsX4_count := fun _ h => List.mem_cons_of_mem _ (List.mem_append_left _ (List.mem_append_right _ h))
  have in_wsX00 : ∀ w ∈ wsX00, w ∈ wsX4_count := fun _ h => List.mem_cons_of_mem _ (List.mem_append_right _ h)
  refine lv_iload_n hx hb dX4_count_0 rfl (lv_at hl 1 rfl) ?_
  refine lv_if_lt (tgt := 19) hx hb dX4_count_1 (by decide) (fun c_1 => ?_) (fun c_1 => ?_)
  · skip
    exact absurd c_1 (by decide)
  · skip
    refine lv_iload_n hx hb dX4_count_4 rfl (lv_at hl 1 rfl) ?_
    refine lv_iconst (v := 4) hx hb dX4_count_5 (by decide) ?_
    refine lv_icmp_ge (tgt := 19) hx hb dX4_count_6 (by decide) (fun c_2 => ?_) (fun c_2 => ?_)
    · skip
      refine lv_iload_n hx hb dX4_count_19 rfl (lv_at hl 1 rfl) ?_
      refine lv_tableIn (off := 83) (tgt := 103) hx hb dX4_count_20 (by decide) (by decide) (by decide +kernel) (by decide) ?_
      refine lv_aload_n hx hb dX4_count_103 rfl (lv_at hl 0 rfl) ?_
      refine va_get (D := G) (ci := 4) (v := .ref h) (C := RX4) (T := TX4) (N := 4) hx hb hts in_wsX40 hown hev.1 hP 0 rfl rfl 0 (by decide) (hts (.fieldLink RX4 10 "PuddleMinistries" "street" "LPuddleMinistries$Street;") (List.mem_of_getElem? (i := 1) rfl)) (fun _ h9 => h9) rfl dX4_count_104 ?_
      refine va_get (D := G) (ci := 3) (v := .int (s_fe S)) (C := RX3) (T := TX3) (N := 15) hx hb hts in_wsX30 hown hev.1 hP 15 rfl rfl 12 (by decide) (hts (.fieldLink RX4 155 "PuddleMinistries$Street" "fell" "I") (List.mem_of_getElem? (i := 5) rfl)) (fun _ h9 => h9) rfl dX4_count_107 ?_
      exact hret _ _ _ _ hP hS dX4_count_110
    · skip
      exact absurd (by decide) c_2
set_option maxHeartbeats 4000000 in
set_option maxRecDepth 100000 in
theorem c_X4_count_7 (l : Launch) (G : va_G) (ca : Nat → ClassId) (xo sl : Nat) (hp ap : Nat) (g : Nat → Int32) (np : Nat) (hh ka : Nat) (n : Nat) (rf : Nat → Option Nat) (kj : Nat) (bj : Nat → Nat) (T : SS) (h : Nat) (a : Nat → Nat) (S : SS) (O : va_W) (Z : va_W) : CtI l yX4_count wsX4_count ({ frames := 0, cells := 0, slots := 0, locals := 0 }) [.ref xo, .int 7] G ca ((xoT xo h hp hh sl) ++ ((paT ca hp ap (g, nI np)) ++ ((hiT ca hh ka (nI n) rf) ++ ((stT ca kj bj T) ++ ((stT ca h a S) ++ (O ++ Z)))))) ((xoT xo h hp hh sl) ++ ((paT ca hp ap (g, nI np)) ++ ((hiT ca hh ka (nI n) rf) ++ ((stT ca kj bj T) ++ ((stT ca h a S) ++ (O ++ Z)))))) (s_dr S) := by
  refine CtI.ofW (cc := cX4_count) (maxL := 2) (rt := .int) (by decide) rfl (Nat.le_of_ble_eq_true rfl) rfl ?_
  intro pr en s m be me c A ls Q H hx hb hml hts hown hev hP hD hA hS hl hret
  have hown : s.vm.findClass RX4 = some m.cls := hown
  have hl : lv_has ls 2 [(0, .ref xo), (1, .int 7)] := hl
  have in_wsX40 : ∀ w ∈ wsX40, w ∈ wsX4_count := fun _ h => List.mem_cons_of_mem _ (List.mem_append_left _ (List.mem_append_left _ (List.mem_append_left _ (List.mem_append_right _ h))))
  have in_wsX30 : ∀ w ∈ wsX30, w ∈ wsX4_count := fun _ h => List.mem_cons_of_mem _ (List.mem_append_left _ (List.mem_append_left _ (List.mem_append_right _ h)))
  have in_wsX10 : ∀ w ∈ wsX10, w ∈ wsX4_count := fun _ h => List.mem_cons_of_mem _ (List.mem_append_left _ (List.mem_append_right _ h))
  have in_wsX00 : ∀ w ∈ wsX00, w ∈ wsX4_count := fun _ h => List.mem_cons_of_mem _ (List.mem_append_right _ h)
  refine lv_iload_n hx hb dX4_count_0 rfl (lv_at hl 1 rfl) ?_
  refine lv_if_lt (tgt := 19) hx hb dX4_count_1 (by decide) (fun c_1 => ?_) (fun c_1 => ?_)
  · skip
    exact absurd c_1 (by decide)
  · skip
    refine lv_iload_n hx hb dX4_count_4 rfl (lv_at hl 1 rfl) ?_
    refine lv_iconst (v := 4) hx hb dX4_count_5 (by decide) ?_
    refine lv_icmp_ge (tgt := 19) hx hb dX4_count_6 (by decide) (fun c_2 => ?_) (fun c_2 => ?_)
    · skip
      refine lv_iload_n hx hb dX4_count_19 rfl (lv_at hl 1 rfl) ?_
      refine lv_tableIn (off := 91) (tgt := 111) hx hb dX4_count_20 (by decide) (by decide) (by decide +kernel) (by decide) ?_
      refine lv_aload_n hx hb dX4_count_111 rfl (lv_at hl 0 rfl) ?_
      refine va_get (D := G) (ci := 4) (v := .ref h) (C := RX4) (T := TX4) (N := 4) hx hb hts in_wsX40 hown hev.1 hP 0 rfl rfl 0 (by decide) (hts (.fieldLink RX4 10 "PuddleMinistries" "street" "LPuddleMinistries$Street;") (List.mem_of_getElem? (i := 1) rfl)) (fun _ h9 => h9) rfl dX4_count_112 ?_
      refine va_get (D := G) (ci := 3) (v := .int (s_dr S)) (C := RX3) (T := TX3) (N := 15) hx hb hts in_wsX30 hown hev.1 hP 15 rfl rfl 13 (by decide) (hts (.fieldLink RX4 158 "PuddleMinistries$Street" "dried" "I") (List.mem_of_getElem? (i := 6) rfl)) (fun _ h9 => h9) rfl dX4_count_115 ?_
      exact hret _ _ _ _ hP hS dX4_count_118
    · skip
      exact absurd (by decide) c_2
set_option maxHeartbeats 4000000 in
set_option maxRecDepth 100000 in
theorem c_X4_count_8 (l : Launch) (G : va_G) (ca : Nat → ClassId) (xo sl : Nat) (hp ap : Nat) (g : Nat → Int32) (np : Nat) (hh ka : Nat) (n : Nat) (rf : Nat → Option Nat) (kj : Nat) (bj : Nat → Nat) (T : SS) (h : Nat) (a : Nat → Nat) (S : SS) (O : va_W) (Z : va_W) : CtI l yX4_count wsX4_count ({ frames := 0, cells := 0, slots := 0, locals := 0 }) [.ref xo, .int 8] G ca ((xoT xo h hp hh sl) ++ ((paT ca hp ap (g, nI np)) ++ ((hiT ca hh ka (nI n) rf) ++ ((stT ca kj bj T) ++ ((stT ca h a S) ++ (O ++ Z)))))) ((xoT xo h hp hh sl) ++ ((paT ca hp ap (g, nI np)) ++ ((hiT ca hh ka (nI n) rf) ++ ((stT ca kj bj T) ++ ((stT ca h a S) ++ (O ++ Z)))))) (s_dn S) := by
  refine CtI.ofW (cc := cX4_count) (maxL := 2) (rt := .int) (by decide) rfl (Nat.le_of_ble_eq_true rfl) rfl ?_
  intro pr en s m be me c A ls Q H hx hb hml hts hown hev hP hD hA hS hl hret
  have hown : s.vm.findClass RX4 = some m.cls := hown
  have hl : lv_has ls 2 [(0, .ref xo), (1, .int 8)] := hl
  have in_wsX40 : ∀ w ∈ wsX40, w ∈ wsX4_count := fun _ h => List.mem_cons_of_mem _ (List.mem_append_left _ (List.mem_append_left _ (List.mem_append_left _ (List.mem_append_right _ h))))
  have in_wsX30 : ∀ w ∈ wsX30, w ∈ wsX4_count := fun _ h => List.mem_cons_of_mem _ (List.mem_append_left _ (List.mem_append_left _ (List.mem_append_right _ h)))
  have in_wsX10 : ∀ w ∈ wsX10, w ∈ wsX4_count := fun _ h => List.mem_cons_of_mem _ (List.mem_append_left _ (List.mem_append_right _ h))
  have in_wsX00 : ∀ w ∈ wsX00, w ∈ wsX4_count := fun _ h => List.mem_cons_of_mem _ (List.mem_append_right _ h)
  refine lv_iload_n hx hb dX4_count_0 rfl (lv_at hl 1 rfl) ?_
  refine lv_if_lt (tgt := 19) hx hb dX4_count_1 (by decide) (fun c_1 => ?_) (fun c_1 => ?_)
  · skip
    exact absurd c_1 (by decide)
  · skip
    refine lv_iload_n hx hb dX4_count_4 rfl (lv_at hl 1 rfl) ?_
    refine lv_iconst (v := 4) hx hb dX4_count_5 (by decide) ?_
    refine lv_icmp_ge (tgt := 19) hx hb dX4_count_6 (by decide) (fun c_2 => ?_) (fun c_2 => ?_)
    · skip
      refine lv_iload_n hx hb dX4_count_19 rfl (lv_at hl 1 rfl) ?_
      refine lv_tableIn (off := 99) (tgt := 119) hx hb dX4_count_20 (by decide) (by decide) (by decide +kernel) (by decide) ?_
      refine lv_aload_n hx hb dX4_count_119 rfl (lv_at hl 0 rfl) ?_
      refine va_get (D := G) (ci := 4) (v := .ref h) (C := RX4) (T := TX4) (N := 4) hx hb hts in_wsX40 hown hev.1 hP 0 rfl rfl 0 (by decide) (hts (.fieldLink RX4 10 "PuddleMinistries" "street" "LPuddleMinistries$Street;") (List.mem_of_getElem? (i := 1) rfl)) (fun _ h9 => h9) rfl dX4_count_120 ?_
      refine va_get (D := G) (ci := 3) (v := .int (s_dn S)) (C := RX3) (T := TX3) (N := 15) hx hb hts in_wsX30 hown hev.1 hP 15 rfl rfl 14 (by decide) (hts (.fieldLink RX4 161 "PuddleMinistries$Street" "drained" "I") (List.mem_of_getElem? (i := 7) rfl)) (fun _ h9 => h9) rfl dX4_count_123 ?_
      exact hret _ _ _ _ hP hS dX4_count_126
    · skip
      exact absurd (by decide) c_2
set_option maxHeartbeats 4000000 in
set_option maxRecDepth 100000 in
theorem c_X4_count_9 (l : Launch) (G : va_G) (ca : Nat → ClassId) (xo sl : Nat) (hp ap : Nat) (g : Nat → Int32) (np : Nat) (hh ka : Nat) (n : Nat) (rf : Nat → Option Nat) (kj : Nat) (bj : Nat → Nat) (T : SS) (h : Nat) (a : Nat → Nat) (S : SS) (O : va_W) (Z : va_W) : CtI l yX4_count wsX4_count ({ frames := 0, cells := 0, slots := 0, locals := 0 }) [.ref xo, .int 9] G ca ((xoT xo h hp hh sl) ++ ((paT ca hp ap (g, nI np)) ++ ((hiT ca hh ka (nI n) rf) ++ ((stT ca kj bj T) ++ ((stT ca h a S) ++ (O ++ Z)))))) ((xoT xo h hp hh sl) ++ ((paT ca hp ap (g, nI np)) ++ ((hiT ca hh ka (nI n) rf) ++ ((stT ca kj bj T) ++ ((stT ca h a S) ++ (O ++ Z)))))) (s_fz S) := by
  refine CtI.ofW (cc := cX4_count) (maxL := 2) (rt := .int) (by decide) rfl (Nat.le_of_ble_eq_true rfl) rfl ?_
  intro pr en s m be me c A ls Q H hx hb hml hts hown hev hP hD hA hS hl hret
  have hown : s.vm.findClass RX4 = some m.cls := hown
  have hl : lv_has ls 2 [(0, .ref xo), (1, .int 9)] := hl
  have in_wsX40 : ∀ w ∈ wsX40, w ∈ wsX4_count := fun _ h => List.mem_cons_of_mem _ (List.mem_append_left _ (List.mem_append_left _ (List.mem_append_left _ (List.mem_append_right _ h))))
  have in_wsX30 : ∀ w ∈ wsX30, w ∈ wsX4_count := fun _ h => List.mem_cons_of_mem _ (List.mem_append_left _ (List.mem_append_left _ (List.mem_append_right _ h)))
  have in_wsX10 : ∀ w ∈ wsX10, w ∈ wsX4_count := fun _ h => List.mem_cons_of_mem _ (List.mem_append_left _ (List.mem_append_right _ h))
  have in_wsX00 : ∀ w ∈ wsX00, w ∈ wsX4_count := fun _ h => List.mem_cons_of_mem _ (List.mem_append_right _ h)
  refine lv_iload_n hx hb dX4_count_0 rfl (lv_at hl 1 rfl) ?_
  refine lv_if_lt (tgt := 19) hx hb dX4_count_1 (by decide) (fun c_1 => ?_) (fun c_1 => ?_)
  · skip
    exact absurd c_1 (by decide)
  · skip
    refine lv_iload_n hx hb dX4_count_4 rfl (lv_at hl 1 rfl) ?_
    refine lv_iconst (v := 4) hx hb dX4_count_5 (by decide) ?_
    refine lv_icmp_ge (tgt := 19) hx hb dX4_count_6 (by decide) (fun c_2 => ?_) (fun c_2 => ?_)
    · skip
      refine lv_iload_n hx hb dX4_count_19 rfl (lv_at hl 1 rfl) ?_
      refine lv_tableIn (off := 107) (tgt := 127) hx hb dX4_count_20 (by decide) (by decide) (by decide +kernel) (by decide) ?_
      refine lv_aload_n hx hb dX4_count_127 rfl (lv_at hl 0 rfl) ?_
      refine va_get (D := G) (ci := 4) (v := .ref h) (C := RX4) (T := TX4) (N := 4) hx hb hts in_wsX40 hown hev.1 hP 0 rfl rfl 0 (by decide) (hts (.fieldLink RX4 10 "PuddleMinistries" "street" "LPuddleMinistries$Street;") (List.mem_of_getElem? (i := 1) rfl)) (fun _ h9 => h9) rfl dX4_count_128 ?_
      refine va_get (D := G) (ci := 3) (v := .int (s_fz S)) (C := RX3) (T := TX3) (N := 15) hx hb hts in_wsX30 hown hev.1 hP 15 rfl rfl 9 (by decide) (hts (.fieldLink RX4 164 "PuddleMinistries$Street" "frozenSet" "I") (List.mem_of_getElem? (i := 8) rfl)) (fun _ h9 => h9) rfl dX4_count_131 ?_
      exact hret _ _ _ _ hP hS dX4_count_134
    · skip
      exact absurd (by decide) c_2
set_option maxHeartbeats 4000000 in
set_option maxRecDepth 100000 in
theorem c_X4_count_10 (l : Launch) (G : va_G) (ca : Nat → ClassId) (xo sl : Nat) (hp ap : Nat) (g : Nat → Int32) (np : Nat) (hh ka : Nat) (n : Nat) (rf : Nat → Option Nat) (kj : Nat) (bj : Nat → Nat) (T : SS) (h : Nat) (a : Nat → Nat) (S : SS) (O : va_W) (Z : va_W) : CtI l yX4_count wsX4_count ({ frames := 0, cells := 0, slots := 0, locals := 0 }) [.ref xo, .int 10] G ca ((xoT xo h hp hh sl) ++ ((paT ca hp ap (g, nI np)) ++ ((hiT ca hh ka (nI n) rf) ++ ((stT ca kj bj T) ++ ((stT ca h a S) ++ (O ++ Z)))))) ((xoT xo h hp hh sl) ++ ((paT ca hp ap (g, nI np)) ++ ((hiT ca hh ka (nI n) rf) ++ ((stT ca kj bj T) ++ ((stT ca h a S) ++ (O ++ Z)))))) (s_dk S) := by
  refine CtI.ofW (cc := cX4_count) (maxL := 2) (rt := .int) (by decide) rfl (Nat.le_of_ble_eq_true rfl) rfl ?_
  intro pr en s m be me c A ls Q H hx hb hml hts hown hev hP hD hA hS hl hret
  have hown : s.vm.findClass RX4 = some m.cls := hown
  have hl : lv_has ls 2 [(0, .ref xo), (1, .int 10)] := hl
  have in_wsX40 : ∀ w ∈ wsX40, w ∈ wsX4_count := fun _ h => List.mem_cons_of_mem _ (List.mem_append_left _ (List.mem_append_left _ (List.mem_append_left _ (List.mem_append_right _ h))))
  have in_wsX30 : ∀ w ∈ wsX30, w ∈ wsX4_count := fun _ h => List.mem_cons_of_mem _ (List.mem_append_left _ (List.mem_append_left _ (List.mem_append_right _ h)))
  have in_wsX10 : ∀ w ∈ wsX10, w ∈ wsX4_count := fun _ h => List.mem_cons_of_mem _ (List.mem_append_left _ (List.mem_append_right _ h))
  have in_wsX00 : ∀ w ∈ wsX00, w ∈ wsX4_count := fun _ h => List.mem_cons_of_mem _ (List.mem_append_right _ h)
  refine lv_iload_n hx hb dX4_count_0 rfl (lv_at hl 1 rfl) ?_
  refine lv_if_lt (tgt := 19) hx hb dX4_count_1 (by decide) (fun c_1 => ?_) (fun c_1 => ?_)
  · skip
    exact absurd c_1 (by decide)
  · skip
    refine lv_iload_n hx hb dX4_count_4 rfl (lv_at hl 1 rfl) ?_
    refine lv_iconst (v := 4) hx hb dX4_count_5 (by decide) ?_
    refine lv_icmp_ge (tgt := 19) hx hb dX4_count_6 (by decide) (fun c_2 => ?_) (fun c_2 => ?_)
    · skip
      refine lv_iload_n hx hb dX4_count_19 rfl (lv_at hl 1 rfl) ?_
      refine lv_tableIn (off := 115) (tgt := 135) hx hb dX4_count_20 (by decide) (by decide) (by decide +kernel) (by decide) ?_
      refine lv_aload_n hx hb dX4_count_135 rfl (lv_at hl 0 rfl) ?_
      refine va_get (D := G) (ci := 4) (v := .ref h) (C := RX4) (T := TX4) (N := 4) hx hb hts in_wsX40 hown hev.1 hP 0 rfl rfl 0 (by decide) (hts (.fieldLink RX4 10 "PuddleMinistries" "street" "LPuddleMinistries$Street;") (List.mem_of_getElem? (i := 1) rfl)) (fun _ h9 => h9) rfl dX4_count_136 ?_
      refine va_get (D := G) (ci := 3) (v := .int (s_dk S)) (C := RX3) (T := TX3) (N := 15) hx hb hts in_wsX30 hown hev.1 hP 15 rfl rfl 10 (by decide) (hts (.fieldLink RX4 167 "PuddleMinistries$Street" "ducksSet" "I") (List.mem_of_getElem? (i := 9) rfl)) (fun _ h9 => h9) rfl dX4_count_139 ?_
      exact hret _ _ _ _ hP hS dX4_count_142
    · skip
      exact absurd (by decide) c_2
set_option maxHeartbeats 4000000 in
set_option maxRecDepth 100000 in
theorem c_X4_count_11 (l : Launch) (G : va_G) (ca : Nat → ClassId) (xo sl : Nat) (hp ap : Nat) (g : Nat → Int32) (np : Nat) (hh ka : Nat) (n : Nat) (rf : Nat → Option Nat) (kj : Nat) (bj : Nat → Nat) (T : SS) (h : Nat) (a : Nat → Nat) (S : SS) (O : va_W) (Z : va_W) : CtI l yX4_count wsX4_count ({ frames := 4, cells := 0, slots := 0, locals := 88 }) [.ref xo, .int 11] G ca ((xoT xo h hp hh sl) ++ ((paT ca hp ap (g, nI np)) ++ ((hiT ca hh ka (nI n) rf) ++ ((stT ca kj bj T) ++ ((stT ca h a S) ++ (O ++ Z)))))) ((xoT xo h hp hh sl) ++ ((paT ca hp ap (g, nI np)) ++ ((hiT ca hh ka (nI n) rf) ++ ((stT ca kj bj T) ++ ((stT ca h a S) ++ (O ++ Z)))))) (smD (fun w => bcN (mkD (hasP (s_pd S) w) 12)) 6) := by
  refine CtI.ofW (cc := cX4_count) (maxL := 2) (rt := .int) (by decide) rfl (Nat.le_of_ble_eq_true rfl) rfl ?_
  intro pr en s m be me c A ls Q H hx hb hml hts hown hev hP hD hA hS hl hret
  have hown : s.vm.findClass RX4 = some m.cls := hown
  have hl : lv_has ls 2 [(0, .ref xo), (1, .int 11)] := hl
  have in_wsX40 : ∀ w ∈ wsX40, w ∈ wsX4_count := fun _ h => List.mem_cons_of_mem _ (List.mem_append_left _ (List.mem_append_left _ (List.mem_append_left _ (List.mem_append_right _ h))))
  have in_wsX30 : ∀ w ∈ wsX30, w ∈ wsX4_count := fun _ h => List.mem_cons_of_mem _ (List.mem_append_left _ (List.mem_append_left _ (List.mem_append_right _ h)))
  have in_wsX10 : ∀ w ∈ wsX10, w ∈ wsX4_count := fun _ h => List.mem_cons_of_mem _ (List.mem_append_left _ (List.mem_append_right _ h))
  have in_wsX00 : ∀ w ∈ wsX00, w ∈ wsX4_count := fun _ h => List.mem_cons_of_mem _ (List.mem_append_right _ h)
  refine lv_iload_n hx hb dX4_count_0 rfl (lv_at hl 1 rfl) ?_
  refine lv_if_lt (tgt := 19) hx hb dX4_count_1 (by decide) (fun c_1 => ?_) (fun c_1 => ?_)
  · skip
    exact absurd c_1 (by decide)
  · skip
    refine lv_iload_n hx hb dX4_count_4 rfl (lv_at hl 1 rfl) ?_
    refine lv_iconst (v := 4) hx hb dX4_count_5 (by decide) ?_
    refine lv_icmp_ge (tgt := 19) hx hb dX4_count_6 (by decide) (fun c_2 => ?_) (fun c_2 => ?_)
    · skip
      refine lv_iload_n hx hb dX4_count_19 rfl (lv_at hl 1 rfl) ?_
      refine lv_tableIn (off := 123) (tgt := 143) hx hb dX4_count_20 (by decide) (by decide) (by decide +kernel) (by decide) ?_
      refine lv_aload_n hx hb dX4_count_143 rfl (lv_at hl 0 rfl) ?_
      refine va_get (D := G) (ci := 4) (v := .ref h) (C := RX4) (T := TX4) (N := 4) hx hb hts in_wsX40 hown hev.1 hP 0 rfl rfl 0 (by decide) (hts (.fieldLink RX4 10 "PuddleMinistries" "street" "LPuddleMinistries$Street;") (List.mem_of_getElem? (i := 1) rfl)) (fun _ h9 => h9) rfl dX4_count_144 ?_
      have hP : va_P G vwCl (((xoT xo h hp hh sl) ++ ((paT ca hp ap (g, nI np)) ++ ((hiT ca hh ka (nI n) rf) ++ (stT ca kj bj T)))) ++ ((stT ca h a S) ++ (O ++ Z))) H := hP
      have hD : va_D A (((xoT xo h hp hh sl) ++ ((paT ca hp ap (g, nI np)) ++ ((hiT ca hh ka (nI n) rf) ++ (stT ca kj bj T)))) ++ ((stT ca h a S) ++ (O ++ Z))) := hD
      refine goI (va_runV (As := []) (rest := []) ⟨hx, hb, hml, hown, hts⟩ (CtI.use (c_X3_allPermits l G ca h a S) H.size) (cwV 0 hts gX4_count_X3_allPermits rfl rfl rfl (by decide +kernel) ⟨Nat.le_of_ble_eq_true rfl, Nat.le_of_ble_eq_true rfl⟩) (pcW_V hev (P_left (P_right hP)) (D_left (D_right hD)) (q0 := 0) rfl rfl rfl) rfl rfl hl.1 rfl (lv_room (Nat.le_of_ble_eq_true rfl)) dX4_count_147 ⟨Nat.zero_le _, Nat.zero_le _⟩) hP hD hS hA stF (fun H locs hP hD hS => ?_)
      have hP : va_P G vwCl ((xoT xo h hp hh sl) ++ ((paT ca hp ap (g, nI np)) ++ ((hiT ca hh ka (nI n) rf) ++ ((stT ca kj bj T) ++ ((stT ca h a S) ++ (O ++ Z)))))) H := hP
      have hD : va_D A ((xoT xo h hp hh sl) ++ ((paT ca hp ap (g, nI np)) ++ ((hiT ca hh ka (nI n) rf) ++ ((stT ca kj bj T) ++ ((stT ca h a S) ++ (O ++ Z)))))) := hD
      exact hret _ _ _ _ hP hS dX4_count_150
    · skip
      exact absurd (by decide) c_2
set_option maxHeartbeats 4000000 in
set_option maxRecDepth 100000 in
theorem c_X4_count_12 (l : Launch) (G : va_G) (ca : Nat → ClassId) (xo sl : Nat) (hp ap : Nat) (g : Nat → Int32) (np : Nat) (hh ka : Nat) (n : Nat) (rf : Nat → Option Nat) (kj : Nat) (bj : Nat → Nat) (T : SS) (h : Nat) (a : Nat → Nat) (S : SS) (O : va_W) (Z : va_W) : CtI l yX4_count wsX4_count ({ frames := 1, cells := 0, slots := 0, locals := 25 }) [.ref xo, .int 12] G ca ((xoT xo h hp hh sl) ++ ((paT ca hp ap (g, nI np)) ++ ((hiT ca hh ka (nI n) rf) ++ ((stT ca kj bj T) ++ ((stT ca h a S) ++ (O ++ Z)))))) ((xoT xo h hp hh sl) ++ ((paT ca hp ap (g, nI np)) ++ ((hiT ca hh ka (nI n) rf) ++ ((stT ca kj bj T) ++ ((stT ca h a S) ++ (O ++ Z)))))) (smD (s_ow S) 6) := by
  refine CtI.ofW (cc := cX4_count) (maxL := 2) (rt := .int) (by decide) rfl (Nat.le_of_ble_eq_true rfl) rfl ?_
  intro pr en s m be me c A ls Q H hx hb hml hts hown hev hP hD hA hS hl hret
  have hown : s.vm.findClass RX4 = some m.cls := hown
  have hl : lv_has ls 2 [(0, .ref xo), (1, .int 12)] := hl
  have in_wsX40 : ∀ w ∈ wsX40, w ∈ wsX4_count := fun _ h => List.mem_cons_of_mem _ (List.mem_append_left _ (List.mem_append_left _ (List.mem_append_left _ (List.mem_append_right _ h))))
  have in_wsX30 : ∀ w ∈ wsX30, w ∈ wsX4_count := fun _ h => List.mem_cons_of_mem _ (List.mem_append_left _ (List.mem_append_left _ (List.mem_append_right _ h)))
  have in_wsX10 : ∀ w ∈ wsX10, w ∈ wsX4_count := fun _ h => List.mem_cons_of_mem _ (List.mem_append_left _ (List.mem_append_right _ h))
  have in_wsX00 : ∀ w ∈ wsX00, w ∈ wsX4_count := fun _ h => List.mem_cons_of_mem _ (List.mem_append_right _ h)
  refine lv_iload_n hx hb dX4_count_0 rfl (lv_at hl 1 rfl) ?_
  refine lv_if_lt (tgt := 19) hx hb dX4_count_1 (by decide) (fun c_1 => ?_) (fun c_1 => ?_)
  · skip
    exact absurd c_1 (by decide)
  · skip
    refine lv_iload_n hx hb dX4_count_4 rfl (lv_at hl 1 rfl) ?_
    refine lv_iconst (v := 4) hx hb dX4_count_5 (by decide) ?_
    refine lv_icmp_ge (tgt := 19) hx hb dX4_count_6 (by decide) (fun c_2 => ?_) (fun c_2 => ?_)
    · skip
      refine lv_iload_n hx hb dX4_count_19 rfl (lv_at hl 1 rfl) ?_
      refine lv_tableIn (off := 131) (tgt := 151) hx hb dX4_count_20 (by decide) (by decide) (by decide +kernel) (by decide) ?_
      refine lv_aload_n hx hb dX4_count_151 rfl (lv_at hl 0 rfl) ?_
      refine va_get (D := G) (ci := 4) (v := .ref h) (C := RX4) (T := TX4) (N := 4) hx hb hts in_wsX40 hown hev.1 hP 0 rfl rfl 0 (by decide) (hts (.fieldLink RX4 10 "PuddleMinistries" "street" "LPuddleMinistries$Street;") (List.mem_of_getElem? (i := 1) rfl)) (fun _ h9 => h9) rfl dX4_count_152 ?_
      refine va_get (D := G) (ci := 3) (v := .ref (a 5)) (C := RX3) (T := TX3) (N := 15) hx hb hts in_wsX30 hown hev.1 hP 15 rfl rfl 5 (by decide) (hts (.fieldLink RX4 104 "PuddleMinistries$Street" "owedBy" "[I") (List.mem_of_getElem? (i := 10) rfl)) (fun _ h9 => h9) rfl dX4_count_155 ?_
      refine goIw (va_runS (As := [.ref (a 5)]) (rest := []) ⟨hx, hb, hml, hown, hts⟩ (CtI.use (c_X4_sum l G ca ((xoT xo h hp hh sl) ++ ((paT ca hp ap (g, nI np)) ++ ((hiT ca hh ka (nI n) rf) ++ ((stT ca kj bj T) ++ ((stT ca h a S) ++ (O ++ Z)))))) 21 (a 5) 6 (s_ow S) rfl (by decide)) H.size) (va_cwS 1 hts gX4_count_X4_sum rfl rfl rfl (by decide +kernel) ⟨Nat.le_of_ble_eq_true rfl, Nat.le_of_ble_eq_true rfl⟩) (pcW_S hev hP hD) rfl rfl hl.1 rfl (lv_room (Nat.le_of_ble_eq_true rfl)) dX4_count_158 ⟨Nat.zero_le _, Nat.zero_le _⟩) hD hS hA rfl (fun H locs hP hD hS => ?_)
      exact hret _ _ _ _ hP hS dX4_count_161
    · skip
      exact absurd (by decide) c_2
set_option maxHeartbeats 4000000 in
set_option maxRecDepth 100000 in
theorem c_X4_count_13 (l : Launch) (G : va_G) (ca : Nat → ClassId) (xo sl : Nat) (hp ap : Nat) (g : Nat → Int32) (np : Nat) (hh ka : Nat) (n : Nat) (rf : Nat → Option Nat) (kj : Nat) (bj : Nat → Nat) (T : SS) (h : Nat) (a : Nat → Nat) (S : SS) (O : va_W) (Z : va_W) : CtI l yX4_count wsX4_count ({ frames := 1, cells := 0, slots := 0, locals := 25 }) [.ref xo, .int 13] G ca ((xoT xo h hp hh sl) ++ ((paT ca hp ap (g, nI np)) ++ ((hiT ca hh ka (nI n) rf) ++ ((stT ca kj bj T) ++ ((stT ca h a S) ++ (O ++ Z)))))) ((xoT xo h hp hh sl) ++ ((paT ca hp ap (g, nI np)) ++ ((hiT ca hh ka (nI n) rf) ++ ((stT ca kj bj T) ++ ((stT ca h a S) ++ (O ++ Z)))))) (smD (s_pa S) 6) := by
  refine CtI.ofW (cc := cX4_count) (maxL := 2) (rt := .int) (by decide) rfl (Nat.le_of_ble_eq_true rfl) rfl ?_
  intro pr en s m be me c A ls Q H hx hb hml hts hown hev hP hD hA hS hl hret
  have hown : s.vm.findClass RX4 = some m.cls := hown
  have hl : lv_has ls 2 [(0, .ref xo), (1, .int 13)] := hl
  have in_wsX40 : ∀ w ∈ wsX40, w ∈ wsX4_count := fun _ h => List.mem_cons_of_mem _ (List.mem_append_left _ (List.mem_append_left _ (List.mem_append_left _ (List.mem_append_right _ h))))
  have in_wsX30 : ∀ w ∈ wsX30, w ∈ wsX4_count := fun _ h => List.mem_cons_of_mem _ (List.mem_append_left _ (List.mem_append_left _ (List.mem_append_right _ h)))
  have in_wsX10 : ∀ w ∈ wsX10, w ∈ wsX4_count := fun _ h => List.mem_cons_of_mem _ (List.mem_append_left _ (List.mem_append_right _ h))
  have in_wsX00 : ∀ w ∈ wsX00, w ∈ wsX4_count := fun _ h => List.mem_cons_of_mem _ (List.mem_append_right _ h)
  refine lv_iload_n hx hb dX4_count_0 rfl (lv_at hl 1 rfl) ?_
  refine lv_if_lt (tgt := 19) hx hb dX4_count_1 (by decide) (fun c_1 => ?_) (fun c_1 => ?_)
  · skip
    exact absurd c_1 (by decide)
  · skip
    refine lv_iload_n hx hb dX4_count_4 rfl (lv_at hl 1 rfl) ?_
    refine lv_iconst (v := 4) hx hb dX4_count_5 (by decide) ?_
    refine lv_icmp_ge (tgt := 19) hx hb dX4_count_6 (by decide) (fun c_2 => ?_) (fun c_2 => ?_)
    · skip
      refine lv_iload_n hx hb dX4_count_19 rfl (lv_at hl 1 rfl) ?_
      refine lv_tableIn (off := 142) (tgt := 162) hx hb dX4_count_20 (by decide) (by decide) (by decide +kernel) (by decide) ?_
      refine lv_aload_n hx hb dX4_count_162 rfl (lv_at hl 0 rfl) ?_
      refine va_get (D := G) (ci := 4) (v := .ref h) (C := RX4) (T := TX4) (N := 4) hx hb hts in_wsX40 hown hev.1 hP 0 rfl rfl 0 (by decide) (hts (.fieldLink RX4 10 "PuddleMinistries" "street" "LPuddleMinistries$Street;") (List.mem_of_getElem? (i := 1) rfl)) (fun _ h9 => h9) rfl dX4_count_163 ?_
      refine va_get (D := G) (ci := 3) (v := .ref (a 6)) (C := RX3) (T := TX3) (N := 15) hx hb hts in_wsX30 hown hev.1 hP 15 rfl rfl 6 (by decide) (hts (.fieldLink RX4 107 "PuddleMinistries$Street" "paidBy" "[I") (List.mem_of_getElem? (i := 11) rfl)) (fun _ h9 => h9) rfl dX4_count_166 ?_
      refine goIw (va_runS (As := [.ref (a 6)]) (rest := []) ⟨hx, hb, hml, hown, hts⟩ (CtI.use (c_X4_sum l G ca ((xoT xo h hp hh sl) ++ ((paT ca hp ap (g, nI np)) ++ ((hiT ca hh ka (nI n) rf) ++ ((stT ca kj bj T) ++ ((stT ca h a S) ++ (O ++ Z)))))) 22 (a 6) 6 (s_pa S) rfl (by decide)) H.size) (va_cwS 1 hts gX4_count_X4_sum rfl rfl rfl (by decide +kernel) ⟨Nat.le_of_ble_eq_true rfl, Nat.le_of_ble_eq_true rfl⟩) (pcW_S hev hP hD) rfl rfl hl.1 rfl (lv_room (Nat.le_of_ble_eq_true rfl)) dX4_count_169 ⟨Nat.zero_le _, Nat.zero_le _⟩) hD hS hA rfl (fun H locs hP hD hS => ?_)
      exact hret _ _ _ _ hP hS dX4_count_172
    · skip
      exact absurd (by decide) c_2
set_option maxHeartbeats 4000000 in
set_option maxRecDepth 100000 in
theorem c_X4_count_14 (l : Launch) (G : va_G) (ca : Nat → ClassId) (xo sl : Nat) (hp ap : Nat) (g : Nat → Int32) (np : Nat) (hh ka : Nat) (n : Nat) (rf : Nat → Option Nat) (kj : Nat) (bj : Nat → Nat) (T : SS) (h : Nat) (a : Nat → Nat) (S : SS) (O : va_W) (Z : va_W) : CtI l yX4_count wsX4_count ({ frames := 0, cells := 0, slots := 0, locals := 0 }) [.ref xo, .int 14] G ca ((xoT xo h hp hh sl) ++ ((paT ca hp ap (g, nI np)) ++ ((hiT ca hh ka (nI n) rf) ++ ((stT ca kj bj T) ++ ((stT ca h a S) ++ (O ++ Z)))))) ((xoT xo h hp hh sl) ++ ((paT ca hp ap (g, nI np)) ++ ((hiT ca hh ka (nI n) rf) ++ ((stT ca kj bj T) ++ ((stT ca h a S) ++ (O ++ Z)))))) (nI np) := by
  refine CtI.ofW (cc := cX4_count) (maxL := 2) (rt := .int) (by decide) rfl (Nat.le_of_ble_eq_true rfl) rfl ?_
  intro pr en s m be me c A ls Q H hx hb hml hts hown hev hP hD hA hS hl hret
  have hown : s.vm.findClass RX4 = some m.cls := hown
  have hl : lv_has ls 2 [(0, .ref xo), (1, .int 14)] := hl
  have in_wsX40 : ∀ w ∈ wsX40, w ∈ wsX4_count := fun _ h => List.mem_cons_of_mem _ (List.mem_append_left _ (List.mem_append_left _ (List.mem_append_left _ (List.mem_append_right _ h))))
  have in_wsX30 : ∀ w ∈ wsX30, w ∈ wsX4_count := fun _ h => List.mem_cons_of_mem _ (List.mem_append_left _ (List.mem_append_left _ (List.mem_append_right _ h)))
  have in_wsX10 : ∀ w ∈ wsX10, w ∈ wsX4_count := fun _ h => List.mem_cons_of_mem _ (List.mem_append_left _ (List.mem_append_right _ h))
  have in_wsX00 : ∀ w ∈ wsX00, w ∈ wsX4_count := fun _ h => List.mem_cons_of_mem _ (List.mem_append_right _ h)
  refine lv_iload_n hx hb dX4_count_0 rfl (lv_at hl 1 rfl) ?_
  refine lv_if_lt (tgt := 19) hx hb dX4_count_1 (by decide) (fun c_1 => ?_) (fun c_1 => ?_)
  · skip
    exact absurd c_1 (by decide)
  · skip
    refine lv_iload_n hx hb dX4_count_4 rfl (lv_at hl 1 rfl) ?_
    refine lv_iconst (v := 4) hx hb dX4_count_5 (by decide) ?_
    refine lv_icmp_ge (tgt := 19) hx hb dX4_count_6 (by decide) (fun c_2 => ?_) (fun c_2 => ?_)
    · skip
      refine lv_iload_n hx hb dX4_count_19 rfl (lv_at hl 1 rfl) ?_
      refine lv_tableIn (off := 153) (tgt := 173) hx hb dX4_count_20 (by decide) (by decide) (by decide +kernel) (by decide) ?_
      refine lv_aload_n hx hb dX4_count_173 rfl (lv_at hl 0 rfl) ?_
      refine va_get (D := G) (ci := 4) (v := .ref hp) (C := RX4) (T := TX4) (N := 4) hx hb hts in_wsX40 hown hev.1 hP 0 rfl rfl 1 (by decide) (hts (.fieldLink RX4 19 "PuddleMinistries" "pad" "LPuddleMinistries$Pad;") (List.mem_of_getElem? (i := 12) rfl)) (fun _ h9 => h9) rfl dX4_count_174 ?_
      refine va_get (D := G) (ci := 1) (v := .int (nI np)) (C := RX1) (T := TX1) (N := 2) hx hb hts in_wsX10 hown hev.1 hP 1 rfl rfl 1 (by decide) (hts (.fieldLink RX4 128 "PuddleMinistries$Pad" "length" "I") (List.mem_of_getElem? (i := 13) rfl)) (fun _ h9 => h9) rfl dX4_count_177 ?_
      exact hret _ _ _ _ hP hS dX4_count_180
    · skip
      exact absurd (by decide) c_2
set_option maxHeartbeats 4000000 in
set_option maxRecDepth 100000 in
theorem c_X4_count_15 (l : Launch) (G : va_G) (ca : Nat → ClassId) (xo sl : Nat) (hp ap : Nat) (g : Nat → Int32) (np : Nat) (hh ka : Nat) (n : Nat) (rf : Nat → Option Nat) (kj : Nat) (bj : Nat → Nat) (T : SS) (h : Nat) (a : Nat → Nat) (S : SS) (O : va_W) (Z : va_W) : CtI l yX4_count wsX4_count ({ frames := 0, cells := 0, slots := 0, locals := 0 }) [.ref xo, .int 15] G ca ((xoT xo h hp hh sl) ++ ((paT ca hp ap (g, nI np)) ++ ((hiT ca hh ka (nI n) rf) ++ ((stT ca kj bj T) ++ ((stT ca h a S) ++ (O ++ Z)))))) ((xoT xo h hp hh sl) ++ ((paT ca hp ap (g, nI np)) ++ ((hiT ca hh ka (nI n) rf) ++ ((stT ca kj bj T) ++ ((stT ca h a S) ++ (O ++ Z)))))) (nI n) := by
  refine CtI.ofW (cc := cX4_count) (maxL := 2) (rt := .int) (by decide) rfl (Nat.le_of_ble_eq_true rfl) rfl ?_
  intro pr en s m be me c A ls Q H hx hb hml hts hown hev hP hD hA hS hl hret
  have hown : s.vm.findClass RX4 = some m.cls := hown
  have hl : lv_has ls 2 [(0, .ref xo), (1, .int 15)] := hl
  have in_wsX40 : ∀ w ∈ wsX40, w ∈ wsX4_count := fun _ h => List.mem_cons_of_mem _ (List.mem_append_left _ (List.mem_append_left _ (List.mem_append_left _ (List.mem_append_right _ h))))
  have in_wsX30 : ∀ w ∈ wsX30, w ∈ wsX4_count := fun _ h => List.mem_cons_of_mem _ (List.mem_append_left _ (List.mem_append_left _ (List.mem_append_right _ h)))
  have in_wsX10 : ∀ w ∈ wsX10, w ∈ wsX4_count := fun _ h => List.mem_cons_of_mem _ (List.mem_append_left _ (List.mem_append_right _ h))
  have in_wsX00 : ∀ w ∈ wsX00, w ∈ wsX4_count := fun _ h => List.mem_cons_of_mem _ (List.mem_append_right _ h)
  refine lv_iload_n hx hb dX4_count_0 rfl (lv_at hl 1 rfl) ?_
  refine lv_if_lt (tgt := 19) hx hb dX4_count_1 (by decide) (fun c_1 => ?_) (fun c_1 => ?_)
  · skip
    exact absurd c_1 (by decide)
  · skip
    refine lv_iload_n hx hb dX4_count_4 rfl (lv_at hl 1 rfl) ?_
    refine lv_iconst (v := 4) hx hb dX4_count_5 (by decide) ?_
    refine lv_icmp_ge (tgt := 19) hx hb dX4_count_6 (by decide) (fun c_2 => ?_) (fun c_2 => ?_)
    · skip
      refine lv_iload_n hx hb dX4_count_19 rfl (lv_at hl 1 rfl) ?_
      refine lv_tableIn (off := 161) (tgt := 181) hx hb dX4_count_20 (by decide) (by decide) (by decide +kernel) (by decide) ?_
      refine lv_aload_n hx hb dX4_count_181 rfl (lv_at hl 0 rfl) ?_
      refine va_get (D := G) (ci := 4) (v := .ref hh) (C := RX4) (T := TX4) (N := 4) hx hb hts in_wsX40 hown hev.1 hP 0 rfl rfl 2 (by decide) (hts (.fieldLink RX4 26 "PuddleMinistries" "history" "LPuddleMinistries$History;") (List.mem_of_getElem? (i := 14) rfl)) (fun _ h9 => h9) rfl dX4_count_182 ?_
      refine va_get (D := G) (ci := 0) (v := .int (nI n)) (C := RX0) (T := TX0) (N := 2) hx hb hts in_wsX00 hown hev.1 hP 3 rfl rfl 1 (by decide) (hts (.fieldLink RX4 173 "PuddleMinistries$History" "size" "I") (List.mem_of_getElem? (i := 15) rfl)) (fun _ h9 => h9) rfl dX4_count_185 ?_
      exact hret _ _ _ _ hP hS dX4_count_188
    · skip
      exact absurd (by decide) c_2
set_option maxHeartbeats 4000000 in
set_option maxRecDepth 100000 in
theorem c_X4_count_bad (l : Launch) (G : va_G) (ca : Nat → ClassId) (xo sl : Nat) (hp ap : Nat) (g : Nat → Int32) (np : Nat) (hh ka : Nat) (n : Nat) (rf : Nat → Option Nat) (kj : Nat) (bj : Nat → Nat) (T : SS) (h : Nat) (a : Nat → Nat) (S : SS) (O : va_W) (Z : va_W) (x : Int32) (hx0 : x.toInt < 0 ∨ 15 < x.toInt) : CtI l yX4_count wsX4_count ({ frames := 0, cells := 0, slots := 0, locals := 0 }) [.ref xo, .int x] G ca ((xoT xo h hp hh sl) ++ ((paT ca hp ap (g, nI np)) ++ ((hiT ca hh ka (nI n) rf) ++ ((stT ca kj bj T) ++ ((stT ca h a S) ++ (O ++ Z)))))) ((xoT xo h hp hh sl) ++ ((paT ca hp ap (g, nI np)) ++ ((hiT ca hh ka (nI n) rf) ++ ((stT ca kj bj T) ++ ((stT ca h a S) ++ (O ++ Z)))))) (-2) := by
  refine CtI.ofW (cc := cX4_count) (maxL := 2) (rt := .int) (by decide) rfl (Nat.le_of_ble_eq_true rfl) rfl ?_
  intro pr en s m be me c A ls Q H hx hb hml hts hown hev hP hD hA hS hl hret
  have hown : s.vm.findClass RX4 = some m.cls := hown
  have hl : lv_has ls 2 [(0, .ref xo), (1, .int x)] := hl
  have in_wsX40 : ∀ w ∈ wsX40, w ∈ wsX4_count := fun _ h => List.mem_cons_of_mem _ (List.mem_append_left _ (List.mem_append_left _ (List.mem_append_left _ (List.mem_append_right _ h))))
  have in_wsX30 : ∀ w ∈ wsX30, w ∈ wsX4_count := fun _ h => List.mem_cons_of_mem _ (List.mem_append_left _ (List.mem_append_left _ (List.mem_append_right _ h)))
  have in_wsX10 : ∀ w ∈ wsX10, w ∈ wsX4_count := fun _ h => List.mem_cons_of_mem _ (List.mem_append_left _ (List.mem_append_right _ h))
  have in_wsX00 : ∀ w ∈ wsX00, w ∈ wsX4_count := fun _ h => List.mem_cons_of_mem _ (List.mem_append_right _ h)
  refine lv_iload_n hx hb dX4_count_0 rfl (lv_at hl 1 rfl) ?_
  refine lv_if_lt (tgt := 19) hx hb dX4_count_1 (by decide) (fun c_1 => ?_) (fun c_1 => ?_)
  · skip
    refine lv_iload_n hx hb dX4_count_19 rfl (lv_at hl 1 rfl) ?_
    refine lv_tableOut (tgt := 189) hx hb dX4_count_20 (cnt_sw hx0) (by decide) ?_
    refine lv_bipush (v := (-2)) hx hb dX4_count_189 (by decide) ?_
    exact hret _ _ _ _ hP hS dX4_count_191
  · skip
    refine lv_iload_n hx hb dX4_count_4 rfl (lv_at hl 1 rfl) ?_
    refine lv_iconst (v := 4) hx hb dX4_count_5 (by decide) ?_
    refine lv_icmp_ge (tgt := 19) hx hb dX4_count_6 (by decide) (fun c_2 => ?_) (fun c_2 => ?_)
    · skip
      refine lv_iload_n hx hb dX4_count_19 rfl (lv_at hl 1 rfl) ?_
      refine lv_tableOut (tgt := 189) hx hb dX4_count_20 (cnt_sw hx0) (by decide) ?_
      refine lv_bipush (v := (-2)) hx hb dX4_count_189 (by decide) ?_
      exact hret _ _ _ _ hP hS dX4_count_191
    · skip
      exact absurd (cnt_out hx0 (by assumption)) c_2
set_option maxHeartbeats 4000000 in
set_option maxRecDepth 100000 in
theorem c_X4_untilDry_out (l : Launch) (G : va_G) (ca : Nat → ClassId) (xo sl : Nat) (hp ap : Nat) (g : Nat → Int32) (np : Nat) (hh ka : Nat) (n : Nat) (rf : Nat → Option Nat) (kj : Nat) (bj : Nat → Nat) (T : SS) (h : Nat) (a : Nat → Nat) (S : SS) (O : va_W) (Z : va_W) (x : Int32) (hx0 : x < 0 ∨ nI 12 ≤ x) : CtI l yX4_untilDry wsX4_untilDry ({ frames := 1, cells := 0, slots := 0, locals := 20 }) [.ref xo, .int x] G ca ((xoT xo h hp hh sl) ++ ((paT ca hp ap (g, nI np)) ++ ((hiT ca hh ka (nI n) rf) ++ ((stT ca kj bj T) ++ ((stT ca h a S) ++ (O ++ Z)))))) ((xoT xo h hp hh sl) ++ ((paT ca hp ap (g, nI np)) ++ ((hiT ca hh ka (nI n) rf) ++ ((stT ca kj bj T) ++ ((stT ca h a S) ++ (O ++ Z)))))) (-1) := by
  refine CtI.ofW (cc := cX4_untilDry) (maxL := 5) (rt := .int) (by decide) rfl (Nat.le_of_ble_eq_true rfl) rfl ?_
  intro pr en s m be me c A ls Q H hx hb hml hts hown hev hP hD hA hS hl hret
  have hown : s.vm.findClass RX4 = some m.cls := hown
  have hl : lv_has ls 5 [(0, .ref xo), (1, .int x)] := hl
  have in_wsX40 : ∀ w ∈ wsX40, w ∈ wsX4_untilDry := fun _ h => List.mem_cons_of_mem _ (List.mem_append_left _ (List.mem_append_right _ h))
  have in_wsX30 : ∀ w ∈ wsX30, w ∈ wsX4_untilDry := fun _ h => List.mem_cons_of_mem _ (List.mem_append_right _ h)
  refine lv_iload_n hx hb dX4_untilDry_0 rfl (lv_at hl 1 rfl) ?_
  refine goI0 (va_runS (As := [.int x]) (rest := []) ⟨hx, hb, hml, hown, hts⟩ (CtI.use (c_X4_isPuddle_out l G ca x hx0) H.size) (va_cwS 1 hts gX4_untilDry_X4_isPuddle rfl rfl rfl (by decide +kernel) ⟨Nat.le_of_ble_eq_true rfl, Nat.le_of_ble_eq_true rfl⟩) (pcW_S hev P_nil (D_nil (A := A))) rfl rfl hl.1 rfl (lv_room (Nat.le_of_ble_eq_true rfl)) dX4_untilDry_1 ⟨Nat.zero_le _, Nat.zero_le _⟩) hP hS hA (fun H locs hP hS => ?_)
  refine lv_if_ne (tgt := 9) hx hb dX4_untilDry_4 (by decide) (fun c_1 => ?_) (fun c_1 => ?_)
  · skip
    exact absurd (by decide) c_1
  · skip
    refine lv_iconst (v := (-1)) hx hb dX4_untilDry_7 (by decide) ?_
    exact hret _ _ _ _ hP hS dX4_untilDry_8
set_option maxHeartbeats 4000000 in
set_option maxRecDepth 100000 in
theorem c_X4_untilDry_ok (l : Launch) (G : va_G) (ca : Nat → ClassId) (xo sl : Nat) (hp ap : Nat) (g : Nat → Int32) (np : Nat) (hh ka : Nat) (n : Nat) (rf : Nat → Option Nat) (kj : Nat) (bj : Nat → Nat) (T : SS) (h : Nat) (a : Nat → Nat) (S : SS) (O : va_W) (Z : va_W) (p : Nat) (hp1 : p < 12) : CtI l yX4_untilDry wsX4_untilDry ({ frames := 2, cells := 0, slots := 0, locals := 42 }) [.ref xo, .int (nI p)] G ca ((xoT xo h hp hh sl) ++ ((paT ca hp ap (g, nI np)) ++ ((hiT ca hh ka (nI n) rf) ++ ((stT ca kj bj T) ++ ((stT ca h a S) ++ (O ++ Z)))))) ((xoT xo h hp hh sl) ++ ((paT ca hp ap (g, nI np)) ++ ((hiT ca hh ka (nI n) rf) ++ ((stT ca kj bj T) ++ ((stT ca h a S) ++ (O ++ Z)))))) (if s_wa S p = 0 then 0 else if 0 < s_se S 1 then (if bt1 (s_fz S) p = 0 then (s_wa S p + s_se S 1 - 1) / s_se S 1 else (s_wa S p + s_se S 1 - 1) / s_se S 1 + 1) else (-6)) := by
  refine CtI.ofW (cc := cX4_untilDry) (maxL := 5) (rt := .int) (by decide) rfl (Nat.le_of_ble_eq_true rfl) rfl ?_
  intro pr en s m be me c A ls Q H hx hb hml hts hown hev hP hD hA hS hl hret
  have hown : s.vm.findClass RX4 = some m.cls := hown
  have hl : lv_has ls 5 [(0, .ref xo), (1, .int (nI p))] := hl
  have in_wsX40 : ∀ w ∈ wsX40, w ∈ wsX4_untilDry := fun _ h => List.mem_cons_of_mem _ (List.mem_append_left _ (List.mem_append_right _ h))
  have in_wsX30 : ∀ w ∈ wsX30, w ∈ wsX4_untilDry := fun _ h => List.mem_cons_of_mem _ (List.mem_append_right _ h)
  refine lv_iload_n hx hb dX4_untilDry_0 rfl (lv_at hl 1 rfl) ?_
  refine goI0 (va_runS (As := [.int (nI p)]) (rest := []) ⟨hx, hb, hml, hown, hts⟩ (CtI.use (c_X4_isPuddle_in l G ca p (by omega)) H.size) (va_cwS 1 hts gX4_untilDry_X4_isPuddle rfl rfl rfl (by decide +kernel) ⟨Nat.le_of_ble_eq_true rfl, Nat.le_of_ble_eq_true rfl⟩) (pcW_S hev P_nil (D_nil (A := A))) rfl rfl hl.1 rfl (lv_room (Nat.le_of_ble_eq_true rfl)) dX4_untilDry_1 ⟨Nat.zero_le _, Nat.zero_le _⟩) hP hS hA (fun H locs hP hS => ?_)
  refine lv_if_ne (tgt := 9) hx hb dX4_untilDry_4 (by decide) (fun c_1 => ?_) (fun c_1 => ?_)
  · skip
    refine lv_aload_n hx hb dX4_untilDry_9 rfl (lv_at hl 0 rfl) ?_
    refine va_get (D := G) (ci := 4) (v := .ref h) (C := RX4) (T := TX4) (N := 4) hx hb hts in_wsX40 hown hev.1 hP 0 rfl rfl 0 (by decide) (hts (.fieldLink RX4 10 "PuddleMinistries" "street" "LPuddleMinistries$Street;") (List.mem_of_getElem? (i := 1) rfl)) (fun _ h9 => h9) rfl dX4_untilDry_10 ?_
    refine va_get (D := G) (ci := 3) (v := .ref (a 2)) (C := RX3) (T := TX3) (N := 15) hx hb hts in_wsX30 hown hev.1 hP 15 rfl rfl 2 (by decide) (hts (.fieldLink RX4 65 "PuddleMinistries$Street" "waters" "[I") (List.mem_of_getElem? (i := 2) rfl)) (fun _ h9 => h9) rfl dX4_untilDry_13 ?_
    refine lv_iload_n hx hb dX4_untilDry_16 rfl (lv_at hl 1 rfl) ?_
    refine b_iald hx hb hev.1 hP 18 rfl rfl (j := p) (by omega) (by decide) dX4_untilDry_17 ?_
    refine lv_istore_n (lv' := [(2, .int ((s_wa S) p)), (0, .ref xo), (1, .int (nI p))]) hx hb dX4_untilDry_18 rfl hl (by decide) rfl (fun ls hl => ?_)
    refine lv_aload_n hx hb dX4_untilDry_19 rfl (lv_at hl 1 rfl) ?_
    refine va_get (D := G) (ci := 4) (v := .ref h) (C := RX4) (T := TX4) (N := 4) hx hb hts in_wsX40 hown hev.1 hP 0 rfl rfl 0 (by decide) (hts (.fieldLink RX4 10 "PuddleMinistries" "street" "LPuddleMinistries$Street;") (List.mem_of_getElem? (i := 1) rfl)) (fun _ h9 => h9) rfl dX4_untilDry_20 ?_
    refine va_get (D := G) (ci := 3) (v := .ref (a 0)) (C := RX3) (T := TX3) (N := 15) hx hb hts in_wsX30 hown hev.1 hP 15 rfl rfl 0 (by decide) (hts (.fieldLink RX4 48 "PuddleMinistries$Street" "settings" "[I") (List.mem_of_getElem? (i := 3) rfl)) (fun _ h9 => h9) rfl dX4_untilDry_23 ?_
    refine lv_iconst (v := nI 1) hx hb dX4_untilDry_26 (by decide) ?_
    refine b_iald hx hb hev.1 hP 16 rfl rfl (j := 1) (by omega) (by decide) dX4_untilDry_27 ?_
    refine lv_istore_n (lv' := [(3, .int ((s_se S) 1)), (2, .int ((s_wa S) p)), (0, .ref xo), (1, .int (nI p))]) hx hb dX4_untilDry_28 rfl hl (by decide) rfl (fun ls hl => ?_)
    refine lv_iload_n hx hb dX4_untilDry_29 rfl (lv_at hl 1 rfl) ?_
    refine lv_if_ne (tgt := 35) hx hb dX4_untilDry_30 (by decide) (fun c_2 => ?_) (fun c_2 => ?_)
    · skip
      refine lv_iload_n hx hb dX4_untilDry_35 rfl (lv_at hl 0 rfl) ?_
      refine lv_if_gt (tgt := 42) hx hb dX4_untilDry_36 (by decide) (fun c_3 => ?_) (fun c_3 => ?_)
      · skip
        refine lv_iload_n hx hb dX4_untilDry_42 rfl (lv_at hl 1 rfl) ?_
        refine lv_iload_n hx hb dX4_untilDry_43 rfl (lv_at hl 0 rfl) ?_
        refine lv_iadd hx hb dX4_untilDry_44 ?_
        refine lv_iconst (v := 1) hx hb dX4_untilDry_45 (by decide) ?_
        refine lv_isub hx hb dX4_untilDry_46 ?_
        refine lv_iload_n hx hb dX4_untilDry_47 rfl (lv_at hl 0 rfl) ?_
        refine lv_idiv hx hb dX4_untilDry_48 (pos_ne (by assumption)) ?_
        refine lv_istore (lv' := [(4, .int (((((s_wa S) p) + ((s_se S) 1)) - 1) / ((s_se S) 1))), (3, .int ((s_se S) 1)), (2, .int ((s_wa S) p)), (0, .ref xo), (1, .int (nI p))]) hx hb dX4_untilDry_49 hl (by decide) rfl (fun ls hl => ?_)
        refine lv_aload_n hx hb dX4_untilDry_51 rfl (lv_at hl 3 rfl) ?_
        refine va_get (D := G) (ci := 4) (v := .ref h) (C := RX4) (T := TX4) (N := 4) hx hb hts in_wsX40 hown hev.1 hP 0 rfl rfl 0 (by decide) (hts (.fieldLink RX4 10 "PuddleMinistries" "street" "LPuddleMinistries$Street;") (List.mem_of_getElem? (i := 1) rfl)) (fun _ h9 => h9) rfl dX4_untilDry_52 ?_
        refine lv_iload_n hx hb dX4_untilDry_55 rfl (lv_at hl 4 rfl) ?_
        have hP : va_P G vwCl (((xoT xo h hp hh sl) ++ ((paT ca hp ap (g, nI np)) ++ ((hiT ca hh ka (nI n) rf) ++ (stT ca kj bj T)))) ++ ((stT ca h a S) ++ (O ++ Z))) H := hP
        have hD : va_D A (((xoT xo h hp hh sl) ++ ((paT ca hp ap (g, nI np)) ++ ((hiT ca hh ka (nI n) rf) ++ (stT ca kj bj T)))) ++ ((stT ca h a S) ++ (O ++ Z))) := hD
        refine goI (va_runV (As := [.int (nI p)]) (rest := []) ⟨hx, hb, hml, hown, hts⟩ (CtI.use (c_X3_isFrozen l G ca h a S p) H.size) (cwV 1 hts gX4_untilDry_X3_isFrozen rfl rfl rfl (by decide +kernel) ⟨Nat.le_of_ble_eq_true rfl, Nat.le_of_ble_eq_true rfl⟩) (pcW_V hev (P_left (P_right hP)) (D_left (D_right hD)) (q0 := 0) rfl rfl rfl) rfl rfl hl.1 rfl (lv_room (Nat.le_of_ble_eq_true rfl)) dX4_untilDry_56 ⟨Nat.zero_le _, Nat.zero_le _⟩) hP hD hS hA stF (fun H locs hP hD hS => ?_)
        have hP : va_P G vwCl ((xoT xo h hp hh sl) ++ ((paT ca hp ap (g, nI np)) ++ ((hiT ca hh ka (nI n) rf) ++ ((stT ca kj bj T) ++ ((stT ca h a S) ++ (O ++ Z)))))) H := hP
        have hD : va_D A ((xoT xo h hp hh sl) ++ ((paT ca hp ap (g, nI np)) ++ ((hiT ca hh ka (nI n) rf) ++ ((stT ca kj bj T) ++ ((stT ca h a S) ++ (O ++ Z)))))) := hD
        refine lv_if_eq (tgt := 69) hx hb dX4_untilDry_59 (by decide) (fun c_4 => ?_) (fun c_4 => ?_)
        · skip
          refine lv_iload hx hb dX4_untilDry_69 (lv_at hl 0 rfl) ?_
          refine lv_eqi (y := if s_wa S p = 0 then 0 else if 0 < s_se S 1 then (if bt1 (s_fz S) p = 0 then (s_wa S p + s_se S 1 - 1) / s_se S 1 else (s_wa S p + s_se S 1 - 1) / s_se S 1 + 1) else (-6)) (by rw [if_neg c_2, if_pos c_3, if_pos c_4]) ?_
          exact hret _ _ _ _ hP hS dX4_untilDry_71
        · skip
          refine lv_iload hx hb dX4_untilDry_62 (lv_at hl 0 rfl) ?_
          refine lv_iconst (v := 1) hx hb dX4_untilDry_64 (by decide) ?_
          refine lv_iadd hx hb dX4_untilDry_65 ?_
          refine lv_goto (tgt := 71) hx hb dX4_untilDry_66 (by decide) ?_
          refine lv_eqi (y := if s_wa S p = 0 then 0 else if 0 < s_se S 1 then (if bt1 (s_fz S) p = 0 then (s_wa S p + s_se S 1 - 1) / s_se S 1 else (s_wa S p + s_se S 1 - 1) / s_se S 1 + 1) else (-6)) (by rw [if_neg c_2, if_pos c_3, if_neg c_4]) ?_
          exact hret _ _ _ _ hP hS dX4_untilDry_71
      · skip
        refine lv_bipush (v := (-6)) hx hb dX4_untilDry_39 (by decide) ?_
        refine lv_eqi (y := if s_wa S p = 0 then 0 else if 0 < s_se S 1 then (if bt1 (s_fz S) p = 0 then (s_wa S p + s_se S 1 - 1) / s_se S 1 else (s_wa S p + s_se S 1 - 1) / s_se S 1 + 1) else (-6)) (by rw [if_neg c_2, if_neg c_3]) ?_
        exact hret _ _ _ _ hP hS dX4_untilDry_41
    · skip
      refine lv_iconst (v := 0) hx hb dX4_untilDry_33 (by decide) ?_
      refine lv_eqi (y := if s_wa S p = 0 then 0 else if 0 < s_se S 1 then (if bt1 (s_fz S) p = 0 then (s_wa S p + s_se S 1 - 1) / s_se S 1 else (s_wa S p + s_se S 1 - 1) / s_se S 1 + 1) else (-6)) (by rw [if_pos c_2]) ?_
      exact hret _ _ _ _ hP hS dX4_untilDry_34
  · skip
    exact absurd c_1 (by decide)
def lsG (g : Nat → Int32) : Nat → Nat → Int32 | 0, _ => (-6) | k + 1, i => if g i = 0 then lsG g k (i + 1) else nI i
theorem lsG_s (g : Nat → Int32) (k i : Nat) : lsG g (k + 1) i = if g i = 0 then lsG g k (i + 1) else nI i := rfl
def lsA (S : SS) (w : Nat) (i : Nat) : Int32 := allZ (fun p => rsnA S w p (nI i)) 12 0
def lwL (al : Int32) : Nat → Int32 × Int32 × Int32
  | 0 => (0, 0, (-6))
  | i + 1 => if bt1 al i = 0 then (if (0 : Int32) ≤ (lwL al i).2.1 then (0, (lwL al i).2.1, (lwL al i).2.2) else (0, 0, nI i - 0 + 1))
    else (if (lwL al i).1 + 1 ≤ (lwL al i).2.1 then ((lwL al i).1 + 1, (lwL al i).2.1, (lwL al i).2.2) else ((lwL al i).1 + 1, (lwL al i).1 + 1, nI i - ((lwL al i).1 + 1) + 1))
theorem lwL_s (al : Int32) (i : Nat) : lwL al (i + 1) = if bt1 al i = 0 then (if (0 : Int32) ≤ (lwL al i).2.1 then (0, (lwL al i).2.1, (lwL al i).2.2) else (0, 0, nI i - 0 + 1))
    else (if (lwL al i).1 + 1 ≤ (lwL al i).2.1 then ((lwL al i).1 + 1, (lwL al i).2.1, (lwL al i).2.2) else ((lwL al i).1 + 1, (lwL al i).1 + 1, nI i - ((lwL al i).1 + 1) + 1)) := rfl
set_option maxHeartbeats 4000000 in
set_option maxRecDepth 100000 in
theorem c_X4_leastShoes_out (l : Launch) (G : va_G) (ca : Nat → ClassId) (xo sl : Nat) (hp ap : Nat) (g : Nat → Int32) (np : Nat) (hh ka : Nat) (n : Nat) (rf : Nat → Option Nat) (kj : Nat) (bj : Nat → Nat) (T : SS) (h : Nat) (a : Nat → Nat) (S : SS) (O : va_W) (Z : va_W) (x : Int32) (hx0 : x < 0 ∨ nI 6 ≤ x) : CtI l yX4_leastShoes wsX4_leastShoes ({ frames := 1, cells := 0, slots := 0, locals := 20 }) [.ref xo, .int x] G ca ((xoT xo h hp hh sl) ++ ((paT ca hp ap (g, nI np)) ++ ((hiT ca hh ka (nI n) rf) ++ ((stT ca kj bj T) ++ ((stT ca h a S) ++ (O ++ Z)))))) ((xoT xo h hp hh sl) ++ ((paT ca hp ap (g, nI np)) ++ ((hiT ca hh ka (nI n) rf) ++ ((stT ca kj bj T) ++ ((stT ca h a S) ++ (O ++ Z)))))) (-1) := by
  refine CtI.ofW (cc := cX4_leastShoes) (maxL := 3) (rt := .int) (by decide) rfl (Nat.le_of_ble_eq_true rfl) rfl ?_
  intro pr en s m be me c A ls Q H hx hb hml hts hown hev hP hD hA hS hl hret
  have hown : s.vm.findClass RX4 = some m.cls := hown
  have hl : lv_has ls 3 [(0, .ref xo), (1, .int x)] := hl
  have in_wsX40 : ∀ w ∈ wsX40, w ∈ wsX4_leastShoes := fun _ h => List.mem_cons_of_mem _ (List.mem_append_left _ (List.mem_append_right _ h))
  have in_wsX30 : ∀ w ∈ wsX30, w ∈ wsX4_leastShoes := fun _ h => List.mem_cons_of_mem _ (List.mem_append_right _ h)
  refine lv_iload_n hx hb dX4_leastShoes_0 rfl (lv_at hl 1 rfl) ?_
  refine goI0 (va_runS (As := [.int x]) (rest := []) ⟨hx, hb, hml, hown, hts⟩ (CtI.use (c_X4_isWalker_out l G ca x hx0) H.size) (va_cwS 1 hts gX4_leastShoes_X4_isWalker rfl rfl rfl (by decide +kernel) ⟨Nat.le_of_ble_eq_true rfl, Nat.le_of_ble_eq_true rfl⟩) (pcW_S hev P_nil (D_nil (A := A))) rfl rfl hl.1 rfl (lv_room (Nat.le_of_ble_eq_true rfl)) dX4_leastShoes_1 ⟨Nat.zero_le _, Nat.zero_le _⟩) hP hS hA (fun H locs hP hS => ?_)
  refine lv_if_ne (tgt := 9) hx hb dX4_leastShoes_4 (by decide) (fun c_1 => ?_) (fun c_1 => ?_)
  · skip
    exact absurd (by decide) c_1
  · skip
    refine lv_iconst (v := (-1)) hx hb dX4_leastShoes_7 (by decide) ?_
    exact hret _ _ _ _ hP hS dX4_leastShoes_8
set_option maxHeartbeats 4000000 in
set_option maxRecDepth 100000 in
theorem c_X4_leastShoes_ok (l : Launch) (G : va_G) (ca : Nat → ClassId) (xo sl : Nat) (hp ap : Nat) (g : Nat → Int32) (np : Nat) (hh ka : Nat) (n : Nat) (rf : Nat → Option Nat) (kj : Nat) (bj : Nat → Nat) (T : SS) (h : Nat) (a : Nat → Nat) (S : SS) (O : va_W) (Z : va_W) (w : Nat) (hw : w < 6) : CtI l yX4_leastShoes wsX4_leastShoes ({ frames := 4, cells := 0, slots := 0, locals := 90 }) [.ref xo, .int (nI w)] G ca ((xoT xo h hp hh sl) ++ ((paT ca hp ap (g, nI np)) ++ ((hiT ca hh ka (nI n) rf) ++ ((stT ca kj bj T) ++ ((stT ca h a S) ++ (O ++ Z)))))) ((xoT xo h hp hh sl) ++ ((paT ca hp ap (g, nI np)) ++ ((hiT ca hh ka (nI n) rf) ++ ((stT ca kj bj T) ++ ((stT ca h a S) ++ (O ++ Z)))))) (lsG (lsA S w) 4 0) := by
  refine CtI.ofW (cc := cX4_leastShoes) (maxL := 3) (rt := .int) (by decide) rfl (Nat.le_of_ble_eq_true rfl) rfl ?_
  intro pr en s m be me c A ls Q H hx hb hml hts hown hev hP hD hA hS hl hret
  have hown : s.vm.findClass RX4 = some m.cls := hown
  have hl : lv_has ls 3 [(0, .ref xo), (1, .int (nI w))] := hl
  have in_wsX40 : ∀ w ∈ wsX40, w ∈ wsX4_leastShoes := fun _ h => List.mem_cons_of_mem _ (List.mem_append_left _ (List.mem_append_right _ h))
  have in_wsX30 : ∀ w ∈ wsX30, w ∈ wsX4_leastShoes := fun _ h => List.mem_cons_of_mem _ (List.mem_append_right _ h)
  refine lv_iload_n hx hb dX4_leastShoes_0 rfl (lv_at hl 1 rfl) ?_
  refine goI0 (va_runS (As := [.int (nI w)]) (rest := []) ⟨hx, hb, hml, hown, hts⟩ (CtI.use (c_X4_isWalker_in l G ca w (by omega)) H.size) (va_cwS 1 hts gX4_leastShoes_X4_isWalker rfl rfl rfl (by decide +kernel) ⟨Nat.le_of_ble_eq_true rfl, Nat.le_of_ble_eq_true rfl⟩) (pcW_S hev P_nil (D_nil (A := A))) rfl rfl hl.1 rfl (lv_room (Nat.le_of_ble_eq_true rfl)) dX4_leastShoes_1 ⟨Nat.zero_le _, Nat.zero_le _⟩) hP hS hA (fun H locs hP hS => ?_)
  refine lv_if_ne (tgt := 9) hx hb dX4_leastShoes_4 (by decide) (fun c_1 => ?_) (fun c_1 => ?_)
  · skip
    refine lv_iconst (v := nI 0) hx hb dX4_leastShoes_9 (by decide) ?_
    refine lv_istore_n (lv' := [(2, .int (nI 0)), (0, .ref xo), (1, .int (nI w))]) hx hb dX4_leastShoes_10 rfl hl (by decide) rfl (fun ls hl => ?_)
    have loop_11 : ∀ (fu i : Nat), i + fu = 4 → lsG (lsA S w) fu i = lsG (lsA S w) 4 0 → ∀ (H : Heap) (locs : List Loc) (ls : Array Slot), va_P G vwCl ((xoT xo h hp hh sl) ++ ((paT ca hp ap (g, nI np)) ++ ((hiT ca hh ka (nI n) rf) ++ ((stT ca kj bj T) ++ ((stT ca h a S) ++ (O ++ Z)))))) H → va_D A ((xoT xo h hp hh sl) ++ ((paT ca hp ap (g, nI np)) ++ ((hiT ca hh ka (nI n) rf) ++ ((stT ca kj bj T) ++ ((stT ca h a S) ++ (O ++ Z)))))) → va_S A s.heap H locs → lv_has ls 3 [(0, .ref xo), (1, .int (nI w)), (2, .int (nI i))] → W pr l en ({ frames := 4, cells := 0, slots := 0, locals := 90 } : Room) s m ([.ref xo, .int (nI w)] : List Value).toArray be me c H locs 0 0 Q (F0 m 11 ls []) := by
      intro fu
      induction fu with
      | zero =>
        intro i hi hr H locs ls hP hD hS hl
        obtain rfl : i = 4 := by omega
        refine lv_iload_n hx hb dX4_leastShoes_11 rfl (lv_at hl 2 rfl) ?_
        refine lv_iconst (v := nI 3) hx hb dX4_leastShoes_12 (by decide) ?_
        refine lv_icmp_gt (tgt := 36) hx hb dX4_leastShoes_13 (by decide) (fun c_2 => ?_) (fun c_2 => ?_)
        · skip
          refine lv_bipush (v := (-6)) hx hb dX4_leastShoes_36 (by decide) ?_
          refine lv_eqi (y := lsG (lsA S w) 4 0) (by rw [← hr]; rfl) ?_
          exact hret _ _ _ _ hP hS dX4_leastShoes_38
        · skip
          exact absurd (nI_lt (by omega) (by omega)) c_2
      | succ fu ih =>
        intro i hi hr H locs ls hP hD hS hl
        have hlt : i < 4 := by omega
        refine lv_iload_n hx hb dX4_leastShoes_11 rfl (lv_at hl 2 rfl) ?_
        refine lv_iconst (v := nI 3) hx hb dX4_leastShoes_12 (by decide) ?_
        refine lv_icmp_gt (tgt := 36) hx hb dX4_leastShoes_13 (by decide) (fun c_3 => ?_) (fun c_3 => ?_)
        · skip
          exact absurd c_3 (nI_nlt (by omega) (by omega))
        · skip
          refine lv_aload_n hx hb dX4_leastShoes_16 rfl (lv_at hl 0 rfl) ?_
          refine va_get (D := G) (ci := 4) (v := .ref h) (C := RX4) (T := TX4) (N := 4) hx hb hts in_wsX40 hown hev.1 hP 0 rfl rfl 0 (by decide) (hts (.fieldLink RX4 10 "PuddleMinistries" "street" "LPuddleMinistries$Street;") (List.mem_of_getElem? (i := 1) rfl)) (fun _ h9 => h9) rfl dX4_leastShoes_17 ?_
          refine lv_iload_n hx hb dX4_leastShoes_20 rfl (lv_at hl 1 rfl) ?_
          refine lv_iload_n hx hb dX4_leastShoes_21 rfl (lv_at hl 2 rfl) ?_
          have hP : va_P G vwCl (((xoT xo h hp hh sl) ++ ((paT ca hp ap (g, nI np)) ++ ((hiT ca hh ka (nI n) rf) ++ (stT ca kj bj T)))) ++ ((stT ca h a S) ++ (O ++ Z))) H := hP
          have hD : va_D A (((xoT xo h hp hh sl) ++ ((paT ca hp ap (g, nI np)) ++ ((hiT ca hh ka (nI n) rf) ++ (stT ca kj bj T)))) ++ ((stT ca h a S) ++ (O ++ Z))) := hD
          refine goI (va_runV (As := [.int (nI w), .int (nI i)]) (rest := []) ⟨hx, hb, hml, hown, hts⟩ (CtI.use (c_X3_allowsAllWith l G ca h a S w (nI i) (by omega)) H.size) (cwV 2 hts gX4_leastShoes_X3_allowsAllWith rfl rfl rfl (by decide +kernel) ⟨Nat.le_of_ble_eq_true rfl, Nat.le_of_ble_eq_true rfl⟩) (pcW_V hev (P_left (P_right hP)) (D_left (D_right hD)) (q0 := 0) rfl rfl rfl) rfl rfl hl.1 rfl (lv_room (Nat.le_of_ble_eq_true rfl)) dX4_leastShoes_22 ⟨Nat.zero_le _, Nat.zero_le _⟩) hP hD hS hA stF (fun H locs hP hD hS => ?_)
          have hP : va_P G vwCl ((xoT xo h hp hh sl) ++ ((paT ca hp ap (g, nI np)) ++ ((hiT ca hh ka (nI n) rf) ++ ((stT ca kj bj T) ++ ((stT ca h a S) ++ (O ++ Z)))))) H := hP
          have hD : va_D A ((xoT xo h hp hh sl) ++ ((paT ca hp ap (g, nI np)) ++ ((hiT ca hh ka (nI n) rf) ++ ((stT ca kj bj T) ++ ((stT ca h a S) ++ (O ++ Z)))))) := hD
          refine lv_if_eq (tgt := 30) hx hb dX4_leastShoes_25 (by decide) (fun c_4 => ?_) (fun c_4 => ?_)
          · skip
            refine lv_iinc (v := nI (i + 1)) (lv' := [(2, .int (nI (i + 1))), (0, .ref xo), (1, .int (nI w))]) hx hb dX4_leastShoes_30 hl (k := 2) rfl (nI_1 _) (by decide) rfl (fun ls hl => ?_)
            refine lv_goto (tgt := 11) hx hb dX4_leastShoes_33 (by decide) ?_
            exact ih (i + 1) (by omega) (by rw [← hr, lsG_s, lsA, if_pos c_4]) _ _ _ hP (D_of hD (app_F rfl (app_F paF (app_F hiF (app_F stF (app_F stF (app_F rfl rfl))))))) hS (lv_sub hl [1, 2, 0] rfl)
          · skip
            refine lv_iload_n hx hb dX4_leastShoes_28 rfl (lv_at hl 2 rfl) ?_
            refine lv_eqi (y := lsG (lsA S w) 4 0) (by rw [← hr, lsG_s, lsA, if_neg c_4]) ?_
            exact hret _ _ _ _ hP hS dX4_leastShoes_29
    exact loop_11 4 0 (by omega) (by rfl) _ _ _ hP (D_of hD (app_F rfl (app_F paF (app_F hiF (app_F stF (app_F stF (app_F rfl rfl))))))) hS (lv_sub hl [1, 2, 0] rfl)
  · skip
    exact absurd c_1 (by decide)
set_option maxHeartbeats 4000000 in
set_option maxRecDepth 100000 in
theorem c_X4_longestWalk_out (l : Launch) (G : va_G) (ca : Nat → ClassId) (xo sl : Nat) (hp ap : Nat) (g : Nat → Int32) (np : Nat) (hh ka : Nat) (n : Nat) (rf : Nat → Option Nat) (kj : Nat) (bj : Nat → Nat) (T : SS) (h : Nat) (a : Nat → Nat) (S : SS) (O : va_W) (Z : va_W) (x : Int32) (v : Int32) (hx0 : x < 0 ∨ nI 6 ≤ x) : CtI l yX4_longestWalk wsX4_longestWalk ({ frames := 1, cells := 0, slots := 0, locals := 20 }) [.ref xo, .int x, .int v] G ca ((xoT xo h hp hh sl) ++ ((paT ca hp ap (g, nI np)) ++ ((hiT ca hh ka (nI n) rf) ++ ((stT ca kj bj T) ++ ((stT ca h a S) ++ (O ++ Z)))))) ((xoT xo h hp hh sl) ++ ((paT ca hp ap (g, nI np)) ++ ((hiT ca hh ka (nI n) rf) ++ ((stT ca kj bj T) ++ ((stT ca h a S) ++ (O ++ Z)))))) (-1) := by
  refine CtI.ofW (cc := cX4_longestWalk) (maxL := 8) (rt := .int) (by decide) rfl (Nat.le_of_ble_eq_true rfl) rfl ?_
  intro pr en s m be me c A ls Q H hx hb hml hts hown hev hP hD hA hS hl hret
  have hown : s.vm.findClass RX4 = some m.cls := hown
  have hl : lv_has ls 8 [(0, .ref xo), (1, .int x), (2, .int v)] := hl
  have in_wsX40 : ∀ w ∈ wsX40, w ∈ wsX4_longestWalk := fun _ h => List.mem_cons_of_mem _ (List.mem_append_left _ (List.mem_append_right _ h))
  have in_wsX30 : ∀ w ∈ wsX30, w ∈ wsX4_longestWalk := fun _ h => List.mem_cons_of_mem _ (List.mem_append_right _ h)
  refine lv_iload_n hx hb dX4_longestWalk_0 rfl (lv_at hl 1 rfl) ?_
  refine goI0 (va_runS (As := [.int x]) (rest := []) ⟨hx, hb, hml, hown, hts⟩ (CtI.use (c_X4_isWalker_out l G ca x hx0) H.size) (va_cwS 1 hts gX4_longestWalk_X4_isWalker rfl rfl rfl (by decide +kernel) ⟨Nat.le_of_ble_eq_true rfl, Nat.le_of_ble_eq_true rfl⟩) (pcW_S hev P_nil (D_nil (A := A))) rfl rfl hl.1 rfl (lv_room (Nat.le_of_ble_eq_true rfl)) dX4_longestWalk_1 ⟨Nat.zero_le _, Nat.zero_le _⟩) hP hS hA (fun H locs hP hS => ?_)
  refine lv_if_ne (tgt := 9) hx hb dX4_longestWalk_4 (by decide) (fun c_1 => ?_) (fun c_1 => ?_)
  · skip
    exact absurd (by decide) c_1
  · skip
    refine lv_iconst (v := (-1)) hx hb dX4_longestWalk_7 (by decide) ?_
    exact hret _ _ _ _ hP hS dX4_longestWalk_8
set_option maxHeartbeats 4000000 in
set_option maxRecDepth 100000 in
theorem c_X4_longestWalk_bad (l : Launch) (G : va_G) (ca : Nat → ClassId) (xo sl : Nat) (hp ap : Nat) (g : Nat → Int32) (np : Nat) (hh ka : Nat) (n : Nat) (rf : Nat → Option Nat) (kj : Nat) (bj : Nat → Nat) (T : SS) (h : Nat) (a : Nat → Nat) (S : SS) (O : va_W) (Z : va_W) (w : Nat) (v : Int32) (hw : w < 6) (hv0 : ¬ v = 0) (hv1 : ¬ v = 1) : CtI l yX4_longestWalk wsX4_longestWalk ({ frames := 1, cells := 0, slots := 0, locals := 20 }) [.ref xo, .int (nI w), .int v] G ca ((xoT xo h hp hh sl) ++ ((paT ca hp ap (g, nI np)) ++ ((hiT ca hh ka (nI n) rf) ++ ((stT ca kj bj T) ++ ((stT ca h a S) ++ (O ++ Z)))))) ((xoT xo h hp hh sl) ++ ((paT ca hp ap (g, nI np)) ++ ((hiT ca hh ka (nI n) rf) ++ ((stT ca kj bj T) ++ ((stT ca h a S) ++ (O ++ Z)))))) (-2) := by
  refine CtI.ofW (cc := cX4_longestWalk) (maxL := 8) (rt := .int) (by decide) rfl (Nat.le_of_ble_eq_true rfl) rfl ?_
  intro pr en s m be me c A ls Q H hx hb hml hts hown hev hP hD hA hS hl hret
  have hown : s.vm.findClass RX4 = some m.cls := hown
  have hl : lv_has ls 8 [(0, .ref xo), (1, .int (nI w)), (2, .int v)] := hl
  have in_wsX40 : ∀ w ∈ wsX40, w ∈ wsX4_longestWalk := fun _ h => List.mem_cons_of_mem _ (List.mem_append_left _ (List.mem_append_right _ h))
  have in_wsX30 : ∀ w ∈ wsX30, w ∈ wsX4_longestWalk := fun _ h => List.mem_cons_of_mem _ (List.mem_append_right _ h)
  refine lv_iload_n hx hb dX4_longestWalk_0 rfl (lv_at hl 1 rfl) ?_
  refine goI0 (va_runS (As := [.int (nI w)]) (rest := []) ⟨hx, hb, hml, hown, hts⟩ (CtI.use (c_X4_isWalker_in l G ca w (by omega)) H.size) (va_cwS 1 hts gX4_longestWalk_X4_isWalker rfl rfl rfl (by decide +kernel) ⟨Nat.le_of_ble_eq_true rfl, Nat.le_of_ble_eq_true rfl⟩) (pcW_S hev P_nil (D_nil (A := A))) rfl rfl hl.1 rfl (lv_room (Nat.le_of_ble_eq_true rfl)) dX4_longestWalk_1 ⟨Nat.zero_le _, Nat.zero_le _⟩) hP hS hA (fun H locs hP hS => ?_)
  refine lv_if_ne (tgt := 9) hx hb dX4_longestWalk_4 (by decide) (fun c_1 => ?_) (fun c_1 => ?_)
  · skip
    refine lv_iload_n hx hb dX4_longestWalk_9 rfl (lv_at hl 2 rfl) ?_
    refine lv_if_eq (tgt := 21) hx hb dX4_longestWalk_10 (by decide) (fun c_2 => ?_) (fun c_2 => ?_)
    · skip
      exact absurd c_2 hv0
    · skip
      refine lv_iload_n hx hb dX4_longestWalk_13 rfl (lv_at hl 2 rfl) ?_
      refine lv_iconst (v := 1) hx hb dX4_longestWalk_14 (by decide) ?_
      refine lv_icmp_eq (tgt := 21) hx hb dX4_longestWalk_15 (by decide) (fun c_3 => ?_) (fun c_3 => ?_)
      · skip
        exact absurd c_3 hv1
      · skip
        refine lv_bipush (v := (-2)) hx hb dX4_longestWalk_18 (by decide) ?_
        exact hret _ _ _ _ hP hS dX4_longestWalk_20
  · skip
    exact absurd c_1 (by decide)
set_option maxHeartbeats 4000000 in
set_option maxRecDepth 100000 in
theorem c_X4_longestWalk_0 (l : Launch) (G : va_G) (ca : Nat → ClassId) (xo sl : Nat) (hp ap : Nat) (g : Nat → Int32) (np : Nat) (hh ka : Nat) (n : Nat) (rf : Nat → Option Nat) (kj : Nat) (bj : Nat → Nat) (T : SS) (h : Nat) (a : Nat → Nat) (S : SS) (O : va_W) (Z : va_W) (w : Nat) (n12 : Nat) (hw : w < 6) (h12 : n12 = 12) : CtI l yX4_longestWalk wsX4_longestWalk ({ frames := 5, cells := 0, slots := 0, locals := 112 }) [.ref xo, .int (nI w), .int 0] G ca ((xoT xo h hp hh sl) ++ ((paT ca hp ap (g, nI np)) ++ ((hiT ca hh ka (nI n) rf) ++ ((stT ca kj bj T) ++ ((stT ca h a S) ++ (O ++ Z)))))) ((xoT xo h hp hh sl) ++ ((paT ca hp ap (g, nI np)) ++ ((hiT ca hh ka (nI n) rf) ++ ((stT ca kj bj T) ++ ((stT ca h a S) ++ (O ++ Z)))))) ((lwL (mkD (mayC S w) 12) n12).2.1) := by
  refine CtI.ofW (cc := cX4_longestWalk) (maxL := 8) (rt := .int) (by decide) rfl (Nat.le_of_ble_eq_true rfl) rfl ?_
  intro pr en s m be me c A ls Q H hx hb hml hts hown hev hP hD hA hS hl hret
  have hown : s.vm.findClass RX4 = some m.cls := hown
  have hl : lv_has ls 8 [(0, .ref xo), (1, .int (nI w)), (2, .int 0)] := hl
  have in_wsX40 : ∀ w ∈ wsX40, w ∈ wsX4_longestWalk := fun _ h => List.mem_cons_of_mem _ (List.mem_append_left _ (List.mem_append_right _ h))
  have in_wsX30 : ∀ w ∈ wsX30, w ∈ wsX4_longestWalk := fun _ h => List.mem_cons_of_mem _ (List.mem_append_right _ h)
  refine lv_iload_n hx hb dX4_longestWalk_0 rfl (lv_at hl 1 rfl) ?_
  refine goI0 (va_runS (As := [.int (nI w)]) (rest := []) ⟨hx, hb, hml, hown, hts⟩ (CtI.use (c_X4_isWalker_in l G ca w (by omega)) H.size) (va_cwS 1 hts gX4_longestWalk_X4_isWalker rfl rfl rfl (by decide +kernel) ⟨Nat.le_of_ble_eq_true rfl, Nat.le_of_ble_eq_true rfl⟩) (pcW_S hev P_nil (D_nil (A := A))) rfl rfl hl.1 rfl (lv_room (Nat.le_of_ble_eq_true rfl)) dX4_longestWalk_1 ⟨Nat.zero_le _, Nat.zero_le _⟩) hP hS hA (fun H locs hP hS => ?_)
  refine lv_if_ne (tgt := 9) hx hb dX4_longestWalk_4 (by decide) (fun c_1 => ?_) (fun c_1 => ?_)
  · skip
    refine lv_iload_n hx hb dX4_longestWalk_9 rfl (lv_at hl 2 rfl) ?_
    refine lv_if_eq (tgt := 21) hx hb dX4_longestWalk_10 (by decide) (fun c_2 => ?_) (fun c_2 => ?_)
    · skip
      refine lv_aload_n hx hb dX4_longestWalk_21 rfl (lv_at hl 0 rfl) ?_
      refine va_get (D := G) (ci := 4) (v := .ref h) (C := RX4) (T := TX4) (N := 4) hx hb hts in_wsX40 hown hev.1 hP 0 rfl rfl 0 (by decide) (hts (.fieldLink RX4 10 "PuddleMinistries" "street" "LPuddleMinistries$Street;") (List.mem_of_getElem? (i := 1) rfl)) (fun _ h9 => h9) rfl dX4_longestWalk_22 ?_
      refine lv_iload_n hx hb dX4_longestWalk_25 rfl (lv_at hl 1 rfl) ?_
      have hP : va_P G vwCl (((xoT xo h hp hh sl) ++ ((paT ca hp ap (g, nI np)) ++ ((hiT ca hh ka (nI n) rf) ++ (stT ca kj bj T)))) ++ ((stT ca h a S) ++ (O ++ Z))) H := hP
      have hD : va_D A (((xoT xo h hp hh sl) ++ ((paT ca hp ap (g, nI np)) ++ ((hiT ca hh ka (nI n) rf) ++ (stT ca kj bj T)))) ++ ((stT ca h a S) ++ (O ++ Z))) := hD
      refine goI (va_runV (As := [.int (nI w)]) (rest := []) ⟨hx, hb, hml, hown, hts⟩ (CtI.use (c_X3_allowedFor l G ca h a S w (by omega)) H.size) (cwV 1 hts gX4_longestWalk_X3_allowedFor rfl rfl rfl (by decide +kernel) ⟨Nat.le_of_ble_eq_true rfl, Nat.le_of_ble_eq_true rfl⟩) (pcW_V hev (P_left (P_right hP)) (D_left (D_right hD)) (q0 := 0) rfl rfl rfl) rfl rfl hl.1 rfl (lv_room (Nat.le_of_ble_eq_true rfl)) dX4_longestWalk_26 ⟨Nat.zero_le _, Nat.zero_le _⟩) hP hD hS hA stF (fun H locs hP hD hS => ?_)
      have hP : va_P G vwCl ((xoT xo h hp hh sl) ++ ((paT ca hp ap (g, nI np)) ++ ((hiT ca hh ka (nI n) rf) ++ ((stT ca kj bj T) ++ ((stT ca h a S) ++ (O ++ Z)))))) H := hP
      have hD : va_D A ((xoT xo h hp hh sl) ++ ((paT ca hp ap (g, nI np)) ++ ((hiT ca hh ka (nI n) rf) ++ ((stT ca kj bj T) ++ ((stT ca h a S) ++ (O ++ Z)))))) := hD
      refine lv_istore_n (lv' := [(3, .int (mkD (mayC S w) 12)), (0, .ref xo), (1, .int (nI w)), (2, .int 0)]) hx hb dX4_longestWalk_29 rfl hl (by decide) rfl (fun ls hl => ?_)
      refine lv_iconst (v := 0) hx hb dX4_longestWalk_30 (by decide) ?_
      refine lv_istore (lv' := [(4, .int 0), (3, .int (mkD (mayC S w) 12)), (0, .ref xo), (1, .int (nI w)), (2, .int 0)]) hx hb dX4_longestWalk_31 hl (by decide) rfl (fun ls hl => ?_)
      refine lv_iconst (v := 0) hx hb dX4_longestWalk_33 (by decide) ?_
      refine lv_istore (lv' := [(5, .int 0), (4, .int 0), (3, .int (mkD (mayC S w) 12)), (0, .ref xo), (1, .int (nI w)), (2, .int 0)]) hx hb dX4_longestWalk_34 hl (by decide) rfl (fun ls hl => ?_)
      refine lv_bipush (v := (-6)) hx hb dX4_longestWalk_36 (by decide) ?_
      refine lv_istore (lv' := [(6, .int (-6)), (5, .int 0), (4, .int 0), (3, .int (mkD (mayC S w) 12)), (0, .ref xo), (1, .int (nI w)), (2, .int 0)]) hx hb dX4_longestWalk_38 hl (by decide) rfl (fun ls hl => ?_)
      refine lv_iconst (v := nI 0) hx hb dX4_longestWalk_40 (by decide) ?_
      refine lv_istore (lv' := [(7, .int (nI 0)), (6, .int (-6)), (5, .int 0), (4, .int 0), (3, .int (mkD (mayC S w) 12)), (0, .ref xo), (1, .int (nI w)), (2, .int 0)]) hx hb dX4_longestWalk_41 hl (by decide) rfl (fun ls hl => ?_)
      have loop_43 : ∀ (fu i : Nat), i + fu = n12 → ∀ (H : Heap) (locs : List Loc) (ls : Array Slot), va_P G vwCl ((xoT xo h hp hh sl) ++ ((paT ca hp ap (g, nI np)) ++ ((hiT ca hh ka (nI n) rf) ++ ((stT ca kj bj T) ++ ((stT ca h a S) ++ (O ++ Z)))))) H → va_D A ((xoT xo h hp hh sl) ++ ((paT ca hp ap (g, nI np)) ++ ((hiT ca hh ka (nI n) rf) ++ ((stT ca kj bj T) ++ ((stT ca h a S) ++ (O ++ Z)))))) → va_S A s.heap H locs → lv_has ls 8 [(0, .ref xo), (1, .int (nI w)), (2, .int 0), (3, .int (mkD (mayC S w) 12)), (4, .int ((lwL (mkD (mayC S w) 12) i).1)), (5, .int ((lwL (mkD (mayC S w) 12) i).2.1)), (6, .int ((lwL (mkD (mayC S w) 12) i).2.2)), (7, .int (nI i))] → W pr l en ({ frames := 5, cells := 0, slots := 0, locals := 112 } : Room) s m ([.ref xo, .int (nI w), .int 0] : List Value).toArray be me c H locs 0 0 Q (F0 m 43 ls []) := by
        intro fu
        induction fu with
        | zero =>
          intro i hi H locs ls hP hD hS hl
          obtain rfl : n12 = i := by omega
          refine lv_iload hx hb dX4_longestWalk_43 (lv_at hl 7 rfl) ?_
          refine lv_bipush (v := nI 12) hx hb dX4_longestWalk_45 (by decide) ?_
          refine lv_icmp_ge (tgt := 95) hx hb dX4_longestWalk_47 (by decide) (fun c_3 => ?_) (fun c_3 => ?_)
          · skip
            refine lv_iload_n hx hb dX4_longestWalk_95 rfl (lv_at hl 2 rfl) ?_
            refine lv_if_ne (tgt := 104) hx hb dX4_longestWalk_96 (by decide) (fun c_4 => ?_) (fun c_4 => ?_)
            · skip
              exact absurd (by decide) c_4
            · skip
              refine lv_iload hx hb dX4_longestWalk_99 (lv_at hl 5 rfl) ?_
              refine lv_goto (tgt := 106) hx hb dX4_longestWalk_101 (by decide) ?_
              exact hret _ _ _ _ hP hS dX4_longestWalk_106
          · skip
            exact absurd (nI_le (by omega) (by omega)) c_3
        | succ fu ih =>
          intro i hi H locs ls hP hD hS hl
          have hlt : i < n12 := by omega
          refine lv_iload hx hb dX4_longestWalk_43 (lv_at hl 7 rfl) ?_
          refine lv_bipush (v := nI 12) hx hb dX4_longestWalk_45 (by decide) ?_
          refine lv_icmp_ge (tgt := 95) hx hb dX4_longestWalk_47 (by decide) (fun c_5 => ?_) (fun c_5 => ?_)
          · skip
            exact absurd c_5 (nI_ge (by omega) (by omega))
          · skip
            refine lv_iload_n hx hb dX4_longestWalk_50 rfl (lv_at hl 3 rfl) ?_
            refine lv_iload hx hb dX4_longestWalk_51 (lv_at hl 7 rfl) ?_
            refine goI0 (va_runS (As := [.int (mkD (mayC S w) 12), .int (nI i)]) (rest := []) ⟨hx, hb, hml, hown, hts⟩ (CtI.use (c_X4_isIn l G ca (mkD (mayC S w) 12) i) H.size) (va_cwS 2 hts gX4_longestWalk_X4_isIn rfl rfl rfl (by decide +kernel) ⟨Nat.le_of_ble_eq_true rfl, Nat.le_of_ble_eq_true rfl⟩) (pcW_S hev P_nil (D_nil (A := A))) rfl rfl hl.1 rfl (lv_room (Nat.le_of_ble_eq_true rfl)) dX4_longestWalk_53 ⟨Nat.zero_le _, Nat.zero_le _⟩) hP hS hA (fun H locs hP hS => ?_)
            refine lv_if_eq (tgt := 66) hx hb dX4_longestWalk_56 (by decide) (fun c_6 => ?_) (fun c_6 => ?_)
            · skip
              refine lv_iconst (v := 0) hx hb dX4_longestWalk_66 (by decide) ?_
              refine lv_istore (lv' := [(4, .int 0), (0, .ref xo), (1, .int (nI w)), (2, .int 0), (3, .int (mkD (mayC S w) 12)), (5, .int ((lwL (mkD (mayC S w) 12) i).2.1)), (6, .int ((lwL (mkD (mayC S w) 12) i).2.2)), (7, .int (nI i))]) hx hb dX4_longestWalk_67 hl (by decide) rfl (fun ls hl => ?_)
              refine lv_iload hx hb dX4_longestWalk_69 (lv_at hl 0 rfl) ?_
              refine lv_iload hx hb dX4_longestWalk_71 (lv_at hl 5 rfl) ?_
              refine lv_icmp_le (tgt := 89) hx hb dX4_longestWalk_73 (by decide) (fun c_7 => ?_) (fun c_7 => ?_)
              · skip
                refine lv_iinc (v := nI (i + 1)) (lv' := [(7, .int (nI (i + 1))), (4, .int 0), (0, .ref xo), (1, .int (nI w)), (2, .int 0), (3, .int (mkD (mayC S w) 12)), (5, .int ((lwL (mkD (mayC S w) 12) i).2.1)), (6, .int ((lwL (mkD (mayC S w) 12) i).2.2))]) hx hb dX4_longestWalk_89 hl (k := 7) rfl (nI_1 _) (by decide) rfl (fun ls hl => ?_)
                refine lv_goto (tgt := 43) hx hb dX4_longestWalk_92 (by decide) ?_
                exact ih (i + 1) (by omega) _ _ _ hP (D_of hD (app_F rfl (app_F paF (app_F hiF (app_F stF (app_F stF (app_F rfl rfl))))))) hS (by rw [show ((lwL (mkD (mayC S w) 12) (i + 1)).1) = 0 from by rw [lwL_s, if_pos c_6, if_pos c_7], show ((lwL (mkD (mayC S w) 12) (i + 1)).2.1) = ((lwL (mkD (mayC S w) 12) i).2.1) from by rw [lwL_s, if_pos c_6, if_pos c_7], show ((lwL (mkD (mayC S w) 12) (i + 1)).2.2) = ((lwL (mkD (mayC S w) 12) i).2.2) from by rw [lwL_s, if_pos c_6, if_pos c_7]]; exact lv_sub hl [2, 3, 4, 5, 1, 6, 7, 0] rfl)
              · skip
                refine lv_iload hx hb dX4_longestWalk_76 (lv_at hl 0 rfl) ?_
                refine lv_istore (lv' := [(5, .int 0), (4, .int 0), (0, .ref xo), (1, .int (nI w)), (2, .int 0), (3, .int (mkD (mayC S w) 12)), (6, .int ((lwL (mkD (mayC S w) 12) i).2.2)), (7, .int (nI i))]) hx hb dX4_longestWalk_78 hl (by decide) rfl (fun ls hl => ?_)
                refine lv_iload hx hb dX4_longestWalk_80 (lv_at hl 7 rfl) ?_
                refine lv_iload hx hb dX4_longestWalk_82 (lv_at hl 1 rfl) ?_
                refine lv_isub hx hb dX4_longestWalk_84 ?_
                refine lv_iconst (v := 1) hx hb dX4_longestWalk_85 (by decide) ?_
                refine lv_iadd hx hb dX4_longestWalk_86 ?_
                refine lv_istore (lv' := [(6, .int (((nI i) - 0) + 1)), (5, .int 0), (4, .int 0), (0, .ref xo), (1, .int (nI w)), (2, .int 0), (3, .int (mkD (mayC S w) 12)), (7, .int (nI i))]) hx hb dX4_longestWalk_87 hl (by decide) rfl (fun ls hl => ?_)
                refine lv_iinc (v := nI (i + 1)) (lv' := [(7, .int (nI (i + 1))), (6, .int (((nI i) - 0) + 1)), (5, .int 0), (4, .int 0), (0, .ref xo), (1, .int (nI w)), (2, .int 0), (3, .int (mkD (mayC S w) 12))]) hx hb dX4_longestWalk_89 hl (k := 7) rfl (nI_1 _) (by decide) rfl (fun ls hl => ?_)
                refine lv_goto (tgt := 43) hx hb dX4_longestWalk_92 (by decide) ?_
                exact ih (i + 1) (by omega) _ _ _ hP (D_of hD (app_F rfl (app_F paF (app_F hiF (app_F stF (app_F stF (app_F rfl rfl))))))) hS (by rw [show ((lwL (mkD (mayC S w) 12) (i + 1)).1) = 0 from by rw [lwL_s, if_pos c_6, if_neg c_7], show ((lwL (mkD (mayC S w) 12) (i + 1)).2.1) = 0 from by rw [lwL_s, if_pos c_6, if_neg c_7], show ((lwL (mkD (mayC S w) 12) (i + 1)).2.2) = (((nI i) - 0) + 1) from by rw [lwL_s, if_pos c_6, if_neg c_7]]; exact lv_sub hl [4, 5, 6, 7, 3, 2, 1, 0] rfl)
            · skip
              refine lv_iload hx hb dX4_longestWalk_59 (lv_at hl 4 rfl) ?_
              refine lv_iconst (v := 1) hx hb dX4_longestWalk_61 (by decide) ?_
              refine lv_iadd hx hb dX4_longestWalk_62 ?_
              refine lv_goto (tgt := 67) hx hb dX4_longestWalk_63 (by decide) ?_
              refine lv_istore (lv' := [(4, .int (((lwL (mkD (mayC S w) 12) i).1) + 1)), (0, .ref xo), (1, .int (nI w)), (2, .int 0), (3, .int (mkD (mayC S w) 12)), (5, .int ((lwL (mkD (mayC S w) 12) i).2.1)), (6, .int ((lwL (mkD (mayC S w) 12) i).2.2)), (7, .int (nI i))]) hx hb dX4_longestWalk_67 hl (by decide) rfl (fun ls hl => ?_)
              refine lv_iload hx hb dX4_longestWalk_69 (lv_at hl 0 rfl) ?_
              refine lv_iload hx hb dX4_longestWalk_71 (lv_at hl 5 rfl) ?_
              refine lv_icmp_le (tgt := 89) hx hb dX4_longestWalk_73 (by decide) (fun c_8 => ?_) (fun c_8 => ?_)
              · skip
                refine lv_iinc (v := nI (i + 1)) (lv' := [(7, .int (nI (i + 1))), (4, .int (((lwL (mkD (mayC S w) 12) i).1) + 1)), (0, .ref xo), (1, .int (nI w)), (2, .int 0), (3, .int (mkD (mayC S w) 12)), (5, .int ((lwL (mkD (mayC S w) 12) i).2.1)), (6, .int ((lwL (mkD (mayC S w) 12) i).2.2))]) hx hb dX4_longestWalk_89 hl (k := 7) rfl (nI_1 _) (by decide) rfl (fun ls hl => ?_)
                refine lv_goto (tgt := 43) hx hb dX4_longestWalk_92 (by decide) ?_
                exact ih (i + 1) (by omega) _ _ _ hP (D_of hD (app_F rfl (app_F paF (app_F hiF (app_F stF (app_F stF (app_F rfl rfl))))))) hS (by rw [show ((lwL (mkD (mayC S w) 12) (i + 1)).1) = (((lwL (mkD (mayC S w) 12) i).1) + 1) from by rw [lwL_s, if_neg c_6, if_pos c_8], show ((lwL (mkD (mayC S w) 12) (i + 1)).2.1) = ((lwL (mkD (mayC S w) 12) i).2.1) from by rw [lwL_s, if_neg c_6, if_pos c_8], show ((lwL (mkD (mayC S w) 12) (i + 1)).2.2) = ((lwL (mkD (mayC S w) 12) i).2.2) from by rw [lwL_s, if_neg c_6, if_pos c_8]]; exact lv_sub hl [2, 3, 4, 5, 1, 6, 7, 0] rfl)
              · skip
                refine lv_iload hx hb dX4_longestWalk_76 (lv_at hl 0 rfl) ?_
                refine lv_istore (lv' := [(5, .int (((lwL (mkD (mayC S w) 12) i).1) + 1)), (4, .int (((lwL (mkD (mayC S w) 12) i).1) + 1)), (0, .ref xo), (1, .int (nI w)), (2, .int 0), (3, .int (mkD (mayC S w) 12)), (6, .int ((lwL (mkD (mayC S w) 12) i).2.2)), (7, .int (nI i))]) hx hb dX4_longestWalk_78 hl (by decide) rfl (fun ls hl => ?_)
                refine lv_iload hx hb dX4_longestWalk_80 (lv_at hl 7 rfl) ?_
                refine lv_iload hx hb dX4_longestWalk_82 (lv_at hl 1 rfl) ?_
                refine lv_isub hx hb dX4_longestWalk_84 ?_
                refine lv_iconst (v := 1) hx hb dX4_longestWalk_85 (by decide) ?_
                refine lv_iadd hx hb dX4_longestWalk_86 ?_
                refine lv_istore (lv' := [(6, .int (((nI i) - (((lwL (mkD (mayC S w) 12) i).1) + 1)) + 1)), (5, .int (((lwL (mkD (mayC S w) 12) i).1) + 1)), (4, .int (((lwL (mkD (mayC S w) 12) i).1) + 1)), (0, .ref xo), (1, .int (nI w)), (2, .int 0), (3, .int (mkD (mayC S w) 12)), (7, .int (nI i))]) hx hb dX4_longestWalk_87 hl (by decide) rfl (fun ls hl => ?_)
                refine lv_iinc (v := nI (i + 1)) (lv' := [(7, .int (nI (i + 1))), (6, .int (((nI i) - (((lwL (mkD (mayC S w) 12) i).1) + 1)) + 1)), (5, .int (((lwL (mkD (mayC S w) 12) i).1) + 1)), (4, .int (((lwL (mkD (mayC S w) 12) i).1) + 1)), (0, .ref xo), (1, .int (nI w)), (2, .int 0), (3, .int (mkD (mayC S w) 12))]) hx hb dX4_longestWalk_89 hl (k := 7) rfl (nI_1 _) (by decide) rfl (fun ls hl => ?_)
                refine lv_goto (tgt := 43) hx hb dX4_longestWalk_92 (by decide) ?_
                exact ih (i + 1) (by omega) _ _ _ hP (D_of hD (app_F rfl (app_F paF (app_F hiF (app_F stF (app_F stF (app_F rfl rfl))))))) hS (by rw [show ((lwL (mkD (mayC S w) 12) (i + 1)).1) = (((lwL (mkD (mayC S w) 12) i).1) + 1) from by rw [lwL_s, if_neg c_6, if_neg c_8], show ((lwL (mkD (mayC S w) 12) (i + 1)).2.1) = (((lwL (mkD (mayC S w) 12) i).1) + 1) from by rw [lwL_s, if_neg c_6, if_neg c_8], show ((lwL (mkD (mayC S w) 12) (i + 1)).2.2) = (((nI i) - (((lwL (mkD (mayC S w) 12) i).1) + 1)) + 1) from by rw [lwL_s, if_neg c_6, if_neg c_8]]; exact lv_sub hl [4, 5, 6, 7, 3, 2, 1, 0] rfl)
      exact loop_43 n12 0 (by omega) _ _ _ hP (D_of hD (app_F rfl (app_F paF (app_F hiF (app_F stF (app_F stF (app_F rfl rfl))))))) hS (lv_sub hl [5, 6, 7, 4, 3, 2, 1, 0] rfl)
    · skip
      exact absurd (by decide) c_2
  · skip
    exact absurd c_1 (by decide)
set_option maxHeartbeats 4000000 in
set_option maxRecDepth 100000 in
theorem c_X4_longestWalk_1 (l : Launch) (G : va_G) (ca : Nat → ClassId) (xo sl : Nat) (hp ap : Nat) (g : Nat → Int32) (np : Nat) (hh ka : Nat) (n : Nat) (rf : Nat → Option Nat) (kj : Nat) (bj : Nat → Nat) (T : SS) (h : Nat) (a : Nat → Nat) (S : SS) (O : va_W) (Z : va_W) (w : Nat) (n12 : Nat) (hw : w < 6) (h12 : n12 = 12) : CtI l yX4_longestWalk wsX4_longestWalk ({ frames := 5, cells := 0, slots := 0, locals := 112 }) [.ref xo, .int (nI w), .int 1] G ca ((xoT xo h hp hh sl) ++ ((paT ca hp ap (g, nI np)) ++ ((hiT ca hh ka (nI n) rf) ++ ((stT ca kj bj T) ++ ((stT ca h a S) ++ (O ++ Z)))))) ((xoT xo h hp hh sl) ++ ((paT ca hp ap (g, nI np)) ++ ((hiT ca hh ka (nI n) rf) ++ ((stT ca kj bj T) ++ ((stT ca h a S) ++ (O ++ Z)))))) ((lwL (mkD (mayC S w) 12) n12).2.2) := by
  refine CtI.ofW (cc := cX4_longestWalk) (maxL := 8) (rt := .int) (by decide) rfl (Nat.le_of_ble_eq_true rfl) rfl ?_
  intro pr en s m be me c A ls Q H hx hb hml hts hown hev hP hD hA hS hl hret
  have hown : s.vm.findClass RX4 = some m.cls := hown
  have hl : lv_has ls 8 [(0, .ref xo), (1, .int (nI w)), (2, .int 1)] := hl
  have in_wsX40 : ∀ w ∈ wsX40, w ∈ wsX4_longestWalk := fun _ h => List.mem_cons_of_mem _ (List.mem_append_left _ (List.mem_append_right _ h))
  have in_wsX30 : ∀ w ∈ wsX30, w ∈ wsX4_longestWalk := fun _ h => List.mem_cons_of_mem _ (List.mem_append_right _ h)
  refine lv_iload_n hx hb dX4_longestWalk_0 rfl (lv_at hl 1 rfl) ?_
  refine goI0 (va_runS (As := [.int (nI w)]) (rest := []) ⟨hx, hb, hml, hown, hts⟩ (CtI.use (c_X4_isWalker_in l G ca w (by omega)) H.size) (va_cwS 1 hts gX4_longestWalk_X4_isWalker rfl rfl rfl (by decide +kernel) ⟨Nat.le_of_ble_eq_true rfl, Nat.le_of_ble_eq_true rfl⟩) (pcW_S hev P_nil (D_nil (A := A))) rfl rfl hl.1 rfl (lv_room (Nat.le_of_ble_eq_true rfl)) dX4_longestWalk_1 ⟨Nat.zero_le _, Nat.zero_le _⟩) hP hS hA (fun H locs hP hS => ?_)
  refine lv_if_ne (tgt := 9) hx hb dX4_longestWalk_4 (by decide) (fun c_1 => ?_) (fun c_1 => ?_)
  · skip
    refine lv_iload_n hx hb dX4_longestWalk_9 rfl (lv_at hl 2 rfl) ?_
    refine lv_if_eq (tgt := 21) hx hb dX4_longestWalk_10 (by decide) (fun c_2 => ?_) (fun c_2 => ?_)
    · skip
      exact absurd c_2 (by decide)
    · skip
      refine lv_iload_n hx hb dX4_longestWalk_13 rfl (lv_at hl 2 rfl) ?_
      refine lv_iconst (v := 1) hx hb dX4_longestWalk_14 (by decide) ?_
      refine lv_icmp_eq (tgt := 21) hx hb dX4_longestWalk_15 (by decide) (fun c_3 => ?_) (fun c_3 => ?_)
      · skip
        refine lv_aload_n hx hb dX4_longestWalk_21 rfl (lv_at hl 0 rfl) ?_
        refine va_get (D := G) (ci := 4) (v := .ref h) (C := RX4) (T := TX4) (N := 4) hx hb hts in_wsX40 hown hev.1 hP 0 rfl rfl 0 (by decide) (hts (.fieldLink RX4 10 "PuddleMinistries" "street" "LPuddleMinistries$Street;") (List.mem_of_getElem? (i := 1) rfl)) (fun _ h9 => h9) rfl dX4_longestWalk_22 ?_
        refine lv_iload_n hx hb dX4_longestWalk_25 rfl (lv_at hl 1 rfl) ?_
        have hP : va_P G vwCl (((xoT xo h hp hh sl) ++ ((paT ca hp ap (g, nI np)) ++ ((hiT ca hh ka (nI n) rf) ++ (stT ca kj bj T)))) ++ ((stT ca h a S) ++ (O ++ Z))) H := hP
        have hD : va_D A (((xoT xo h hp hh sl) ++ ((paT ca hp ap (g, nI np)) ++ ((hiT ca hh ka (nI n) rf) ++ (stT ca kj bj T)))) ++ ((stT ca h a S) ++ (O ++ Z))) := hD
        refine goI (va_runV (As := [.int (nI w)]) (rest := []) ⟨hx, hb, hml, hown, hts⟩ (CtI.use (c_X3_allowedFor l G ca h a S w (by omega)) H.size) (cwV 1 hts gX4_longestWalk_X3_allowedFor rfl rfl rfl (by decide +kernel) ⟨Nat.le_of_ble_eq_true rfl, Nat.le_of_ble_eq_true rfl⟩) (pcW_V hev (P_left (P_right hP)) (D_left (D_right hD)) (q0 := 0) rfl rfl rfl) rfl rfl hl.1 rfl (lv_room (Nat.le_of_ble_eq_true rfl)) dX4_longestWalk_26 ⟨Nat.zero_le _, Nat.zero_le _⟩) hP hD hS hA stF (fun H locs hP hD hS => ?_)
        have hP : va_P G vwCl ((xoT xo h hp hh sl) ++ ((paT ca hp ap (g, nI np)) ++ ((hiT ca hh ka (nI n) rf) ++ ((stT ca kj bj T) ++ ((stT ca h a S) ++ (O ++ Z)))))) H := hP
        have hD : va_D A ((xoT xo h hp hh sl) ++ ((paT ca hp ap (g, nI np)) ++ ((hiT ca hh ka (nI n) rf) ++ ((stT ca kj bj T) ++ ((stT ca h a S) ++ (O ++ Z)))))) := hD
        refine lv_istore_n (lv' := [(3, .int (mkD (mayC S w) 12)), (0, .ref xo), (1, .int (nI w)), (2, .int 1)]) hx hb dX4_longestWalk_29 rfl hl (by decide) rfl (fun ls hl => ?_)
        refine lv_iconst (v := 0) hx hb dX4_longestWalk_30 (by decide) ?_
        refine lv_istore (lv' := [(4, .int 0), (3, .int (mkD (mayC S w) 12)), (0, .ref xo), (1, .int (nI w)), (2, .int 1)]) hx hb dX4_longestWalk_31 hl (by decide) rfl (fun ls hl => ?_)
        refine lv_iconst (v := 0) hx hb dX4_longestWalk_33 (by decide) ?_
        refine lv_istore (lv' := [(5, .int 0), (4, .int 0), (3, .int (mkD (mayC S w) 12)), (0, .ref xo), (1, .int (nI w)), (2, .int 1)]) hx hb dX4_longestWalk_34 hl (by decide) rfl (fun ls hl => ?_)
        refine lv_bipush (v := (-6)) hx hb dX4_longestWalk_36 (by decide) ?_
        refine lv_istore (lv' := [(6, .int (-6)), (5, .int 0), (4, .int 0), (3, .int (mkD (mayC S w) 12)), (0, .ref xo), (1, .int (nI w)), (2, .int 1)]) hx hb dX4_longestWalk_38 hl (by decide) rfl (fun ls hl => ?_)
        refine lv_iconst (v := nI 0) hx hb dX4_longestWalk_40 (by decide) ?_
        refine lv_istore (lv' := [(7, .int (nI 0)), (6, .int (-6)), (5, .int 0), (4, .int 0), (3, .int (mkD (mayC S w) 12)), (0, .ref xo), (1, .int (nI w)), (2, .int 1)]) hx hb dX4_longestWalk_41 hl (by decide) rfl (fun ls hl => ?_)
        have loop_43 : ∀ (fu i : Nat), i + fu = n12 → ∀ (H : Heap) (locs : List Loc) (ls : Array Slot), va_P G vwCl ((xoT xo h hp hh sl) ++ ((paT ca hp ap (g, nI np)) ++ ((hiT ca hh ka (nI n) rf) ++ ((stT ca kj bj T) ++ ((stT ca h a S) ++ (O ++ Z)))))) H → va_D A ((xoT xo h hp hh sl) ++ ((paT ca hp ap (g, nI np)) ++ ((hiT ca hh ka (nI n) rf) ++ ((stT ca kj bj T) ++ ((stT ca h a S) ++ (O ++ Z)))))) → va_S A s.heap H locs → lv_has ls 8 [(0, .ref xo), (1, .int (nI w)), (2, .int 1), (3, .int (mkD (mayC S w) 12)), (4, .int ((lwL (mkD (mayC S w) 12) i).1)), (5, .int ((lwL (mkD (mayC S w) 12) i).2.1)), (6, .int ((lwL (mkD (mayC S w) 12) i).2.2)), (7, .int (nI i))] → W pr l en ({ frames := 5, cells := 0, slots := 0, locals := 112 } : Room) s m ([.ref xo, .int (nI w), .int 1] : List Value).toArray be me c H locs 0 0 Q (F0 m 43 ls []) := by
          intro fu
          induction fu with
          | zero =>
            intro i hi H locs ls hP hD hS hl
            obtain rfl : n12 = i := by omega
            refine lv_iload hx hb dX4_longestWalk_43 (lv_at hl 7 rfl) ?_
            refine lv_bipush (v := nI 12) hx hb dX4_longestWalk_45 (by decide) ?_
            refine lv_icmp_ge (tgt := 95) hx hb dX4_longestWalk_47 (by decide) (fun c_4 => ?_) (fun c_4 => ?_)
            · skip
              refine lv_iload_n hx hb dX4_longestWalk_95 rfl (lv_at hl 2 rfl) ?_
              refine lv_if_ne (tgt := 104) hx hb dX4_longestWalk_96 (by decide) (fun c_5 => ?_) (fun c_5 => ?_)
              · skip
                refine lv_iload hx hb dX4_longestWalk_104 (lv_at hl 6 rfl) ?_
                exact hret _ _ _ _ hP hS dX4_longestWalk_106
              · skip
                exact absurd c_5 (by decide)
            · skip
              exact absurd (nI_le (by omega) (by omega)) c_4
          | succ fu ih =>
            intro i hi H locs ls hP hD hS hl
            have hlt : i < n12 := by omega
            refine lv_iload hx hb dX4_longestWalk_43 (lv_at hl 7 rfl) ?_
            refine lv_bipush (v := nI 12) hx hb dX4_longestWalk_45 (by decide) ?_
            refine lv_icmp_ge (tgt := 95) hx hb dX4_longestWalk_47 (by decide) (fun c_6 => ?_) (fun c_6 => ?_)
            · skip
              exact absurd c_6 (nI_ge (by omega) (by omega))
            · skip
              refine lv_iload_n hx hb dX4_longestWalk_50 rfl (lv_at hl 3 rfl) ?_
              refine lv_iload hx hb dX4_longestWalk_51 (lv_at hl 7 rfl) ?_
              refine goI0 (va_runS (As := [.int (mkD (mayC S w) 12), .int (nI i)]) (rest := []) ⟨hx, hb, hml, hown, hts⟩ (CtI.use (c_X4_isIn l G ca (mkD (mayC S w) 12) i) H.size) (va_cwS 2 hts gX4_longestWalk_X4_isIn rfl rfl rfl (by decide +kernel) ⟨Nat.le_of_ble_eq_true rfl, Nat.le_of_ble_eq_true rfl⟩) (pcW_S hev P_nil (D_nil (A := A))) rfl rfl hl.1 rfl (lv_room (Nat.le_of_ble_eq_true rfl)) dX4_longestWalk_53 ⟨Nat.zero_le _, Nat.zero_le _⟩) hP hS hA (fun H locs hP hS => ?_)
              refine lv_if_eq (tgt := 66) hx hb dX4_longestWalk_56 (by decide) (fun c_7 => ?_) (fun c_7 => ?_)
              · skip
                refine lv_iconst (v := 0) hx hb dX4_longestWalk_66 (by decide) ?_
                refine lv_istore (lv' := [(4, .int 0), (0, .ref xo), (1, .int (nI w)), (2, .int 1), (3, .int (mkD (mayC S w) 12)), (5, .int ((lwL (mkD (mayC S w) 12) i).2.1)), (6, .int ((lwL (mkD (mayC S w) 12) i).2.2)), (7, .int (nI i))]) hx hb dX4_longestWalk_67 hl (by decide) rfl (fun ls hl => ?_)
                refine lv_iload hx hb dX4_longestWalk_69 (lv_at hl 0 rfl) ?_
                refine lv_iload hx hb dX4_longestWalk_71 (lv_at hl 5 rfl) ?_
                refine lv_icmp_le (tgt := 89) hx hb dX4_longestWalk_73 (by decide) (fun c_8 => ?_) (fun c_8 => ?_)
                · skip
                  refine lv_iinc (v := nI (i + 1)) (lv' := [(7, .int (nI (i + 1))), (4, .int 0), (0, .ref xo), (1, .int (nI w)), (2, .int 1), (3, .int (mkD (mayC S w) 12)), (5, .int ((lwL (mkD (mayC S w) 12) i).2.1)), (6, .int ((lwL (mkD (mayC S w) 12) i).2.2))]) hx hb dX4_longestWalk_89 hl (k := 7) rfl (nI_1 _) (by decide) rfl (fun ls hl => ?_)
                  refine lv_goto (tgt := 43) hx hb dX4_longestWalk_92 (by decide) ?_
                  exact ih (i + 1) (by omega) _ _ _ hP (D_of hD (app_F rfl (app_F paF (app_F hiF (app_F stF (app_F stF (app_F rfl rfl))))))) hS (by rw [show ((lwL (mkD (mayC S w) 12) (i + 1)).1) = 0 from by rw [lwL_s, if_pos c_7, if_pos c_8], show ((lwL (mkD (mayC S w) 12) (i + 1)).2.1) = ((lwL (mkD (mayC S w) 12) i).2.1) from by rw [lwL_s, if_pos c_7, if_pos c_8], show ((lwL (mkD (mayC S w) 12) (i + 1)).2.2) = ((lwL (mkD (mayC S w) 12) i).2.2) from by rw [lwL_s, if_pos c_7, if_pos c_8]]; exact lv_sub hl [2, 3, 4, 5, 1, 6, 7, 0] rfl)
                · skip
                  refine lv_iload hx hb dX4_longestWalk_76 (lv_at hl 0 rfl) ?_
                  refine lv_istore (lv' := [(5, .int 0), (4, .int 0), (0, .ref xo), (1, .int (nI w)), (2, .int 1), (3, .int (mkD (mayC S w) 12)), (6, .int ((lwL (mkD (mayC S w) 12) i).2.2)), (7, .int (nI i))]) hx hb dX4_longestWalk_78 hl (by decide) rfl (fun ls hl => ?_)
                  refine lv_iload hx hb dX4_longestWalk_80 (lv_at hl 7 rfl) ?_
                  refine lv_iload hx hb dX4_longestWalk_82 (lv_at hl 1 rfl) ?_
                  refine lv_isub hx hb dX4_longestWalk_84 ?_
                  refine lv_iconst (v := 1) hx hb dX4_longestWalk_85 (by decide) ?_
                  refine lv_iadd hx hb dX4_longestWalk_86 ?_
                  refine lv_istore (lv' := [(6, .int (((nI i) - 0) + 1)), (5, .int 0), (4, .int 0), (0, .ref xo), (1, .int (nI w)), (2, .int 1), (3, .int (mkD (mayC S w) 12)), (7, .int (nI i))]) hx hb dX4_longestWalk_87 hl (by decide) rfl (fun ls hl => ?_)
                  refine lv_iinc (v := nI (i + 1)) (lv' := [(7, .int (nI (i + 1))), (6, .int (((nI i) - 0) + 1)), (5, .int 0), (4, .int 0), (0, .ref xo), (1, .int (nI w)), (2, .int 1), (3, .int (mkD (mayC S w) 12))]) hx hb dX4_longestWalk_89 hl (k := 7) rfl (nI_1 _) (by decide) rfl (fun ls hl => ?_)
                  refine lv_goto (tgt := 43) hx hb dX4_longestWalk_92 (by decide) ?_
                  exact ih (i + 1) (by omega) _ _ _ hP (D_of hD (app_F rfl (app_F paF (app_F hiF (app_F stF (app_F stF (app_F rfl rfl))))))) hS (by rw [show ((lwL (mkD (mayC S w) 12) (i + 1)).1) = 0 from by rw [lwL_s, if_pos c_7, if_neg c_8], show ((lwL (mkD (mayC S w) 12) (i + 1)).2.1) = 0 from by rw [lwL_s, if_pos c_7, if_neg c_8], show ((lwL (mkD (mayC S w) 12) (i + 1)).2.2) = (((nI i) - 0) + 1) from by rw [lwL_s, if_pos c_7, if_neg c_8]]; exact lv_sub hl [4, 5, 6, 7, 3, 2, 1, 0] rfl)
              · skip
                refine lv_iload hx hb dX4_longestWalk_59 (lv_at hl 4 rfl) ?_
                refine lv_iconst (v := 1) hx hb dX4_longestWalk_61 (by decide) ?_
                refine lv_iadd hx hb dX4_longestWalk_62 ?_
                refine lv_goto (tgt := 67) hx hb dX4_longestWalk_63 (by decide) ?_
                refine lv_istore (lv' := [(4, .int (((lwL (mkD (mayC S w) 12) i).1) + 1)), (0, .ref xo), (1, .int (nI w)), (2, .int 1), (3, .int (mkD (mayC S w) 12)), (5, .int ((lwL (mkD (mayC S w) 12) i).2.1)), (6, .int ((lwL (mkD (mayC S w) 12) i).2.2)), (7, .int (nI i))]) hx hb dX4_longestWalk_67 hl (by decide) rfl (fun ls hl => ?_)
                refine lv_iload hx hb dX4_longestWalk_69 (lv_at hl 0 rfl) ?_
                refine lv_iload hx hb dX4_longestWalk_71 (lv_at hl 5 rfl) ?_
                refine lv_icmp_le (tgt := 89) hx hb dX4_longestWalk_73 (by decide) (fun c_9 => ?_) (fun c_9 => ?_)
                · skip
                  refine lv_iinc (v := nI (i + 1)) (lv' := [(7, .int (nI (i + 1))), (4, .int (((lwL (mkD (mayC S w) 12) i).1) + 1)), (0, .ref xo), (1, .int (nI w)), (2, .int 1), (3, .int (mkD (mayC S w) 12)), (5, .int ((lwL (mkD (mayC S w) 12) i).2.1)), (6, .int ((lwL (mkD (mayC S w) 12) i).2.2))]) hx hb dX4_longestWalk_89 hl (k := 7) rfl (nI_1 _) (by decide) rfl (fun ls hl => ?_)
                  refine lv_goto (tgt := 43) hx hb dX4_longestWalk_92 (by decide) ?_
                  exact ih (i + 1) (by omega) _ _ _ hP (D_of hD (app_F rfl (app_F paF (app_F hiF (app_F stF (app_F stF (app_F rfl rfl))))))) hS (by rw [show ((lwL (mkD (mayC S w) 12) (i + 1)).1) = (((lwL (mkD (mayC S w) 12) i).1) + 1) from by rw [lwL_s, if_neg c_7, if_pos c_9], show ((lwL (mkD (mayC S w) 12) (i + 1)).2.1) = ((lwL (mkD (mayC S w) 12) i).2.1) from by rw [lwL_s, if_neg c_7, if_pos c_9], show ((lwL (mkD (mayC S w) 12) (i + 1)).2.2) = ((lwL (mkD (mayC S w) 12) i).2.2) from by rw [lwL_s, if_neg c_7, if_pos c_9]]; exact lv_sub hl [2, 3, 4, 5, 1, 6, 7, 0] rfl)
                · skip
                  refine lv_iload hx hb dX4_longestWalk_76 (lv_at hl 0 rfl) ?_
                  refine lv_istore (lv' := [(5, .int (((lwL (mkD (mayC S w) 12) i).1) + 1)), (4, .int (((lwL (mkD (mayC S w) 12) i).1) + 1)), (0, .ref xo), (1, .int (nI w)), (2, .int 1), (3, .int (mkD (mayC S w) 12)), (6, .int ((lwL (mkD (mayC S w) 12) i).2.2)), (7, .int (nI i))]) hx hb dX4_longestWalk_78 hl (by decide) rfl (fun ls hl => ?_)
                  refine lv_iload hx hb dX4_longestWalk_80 (lv_at hl 7 rfl) ?_
                  refine lv_iload hx hb dX4_longestWalk_82 (lv_at hl 1 rfl) ?_
                  refine lv_isub hx hb dX4_longestWalk_84 ?_
                  refine lv_iconst (v := 1) hx hb dX4_longestWalk_85 (by decide) ?_
                  refine lv_iadd hx hb dX4_longestWalk_86 ?_
                  refine lv_istore (lv' := [(6, .int (((nI i) - (((lwL (mkD (mayC S w) 12) i).1) + 1)) + 1)), (5, .int (((lwL (mkD (mayC S w) 12) i).1) + 1)), (4, .int (((lwL (mkD (mayC S w) 12) i).1) + 1)), (0, .ref xo), (1, .int (nI w)), (2, .int 1), (3, .int (mkD (mayC S w) 12)), (7, .int (nI i))]) hx hb dX4_longestWalk_87 hl (by decide) rfl (fun ls hl => ?_)
                  refine lv_iinc (v := nI (i + 1)) (lv' := [(7, .int (nI (i + 1))), (6, .int (((nI i) - (((lwL (mkD (mayC S w) 12) i).1) + 1)) + 1)), (5, .int (((lwL (mkD (mayC S w) 12) i).1) + 1)), (4, .int (((lwL (mkD (mayC S w) 12) i).1) + 1)), (0, .ref xo), (1, .int (nI w)), (2, .int 1), (3, .int (mkD (mayC S w) 12))]) hx hb dX4_longestWalk_89 hl (k := 7) rfl (nI_1 _) (by decide) rfl (fun ls hl => ?_)
                  refine lv_goto (tgt := 43) hx hb dX4_longestWalk_92 (by decide) ?_
                  exact ih (i + 1) (by omega) _ _ _ hP (D_of hD (app_F rfl (app_F paF (app_F hiF (app_F stF (app_F stF (app_F rfl rfl))))))) hS (by rw [show ((lwL (mkD (mayC S w) 12) (i + 1)).1) = (((lwL (mkD (mayC S w) 12) i).1) + 1) from by rw [lwL_s, if_neg c_7, if_neg c_9], show ((lwL (mkD (mayC S w) 12) (i + 1)).2.1) = (((lwL (mkD (mayC S w) 12) i).1) + 1) from by rw [lwL_s, if_neg c_7, if_neg c_9], show ((lwL (mkD (mayC S w) 12) (i + 1)).2.2) = (((nI i) - (((lwL (mkD (mayC S w) 12) i).1) + 1)) + 1) from by rw [lwL_s, if_neg c_7, if_neg c_9]]; exact lv_sub hl [4, 5, 6, 7, 3, 2, 1, 0] rfl)
        exact loop_43 n12 0 (by omega) _ _ _ hP (D_of hD (app_F rfl (app_F paF (app_F hiF (app_F stF (app_F stF (app_F rfl rfl))))))) hS (lv_sub hl [5, 6, 7, 4, 3, 2, 1, 0] rfl)
      · skip
        exact absurd (by decide) c_3
  · skip
    exact absurd c_1 (by decide)
set_option maxHeartbeats 4000000 in
set_option maxRecDepth 100000 in
theorem c_X4_wipe (l : Launch) (G : va_G) (ca : Nat → ClassId) (xo sl : Nat) (hp ap : Nat) (g : Nat → Int32) (np : Nat) (hh ka : Nat) (n : Nat) (rf : Nat → Option Nat) (kj : Nat) (bj : Nat → Nat) (T : SS) (h : Nat) (a : Nat → Nat) (S : SS) (O : va_W) (Z : va_W) : CtI l yX4_wipe wsX4_wipe ({ frames := 0, cells := 0, slots := 0, locals := 0 }) [.ref xo] G ca ((xoT xo h hp hh sl) ++ ((paT ca hp ap (g, nI np)) ++ ((hiT ca hh ka (nI n) rf) ++ ((stT ca kj bj T) ++ ((stT ca h a S) ++ (O ++ Z)))))) ((xoT xo h hp hh sl) ++ ((paT ca hp ap (g, nI 0)) ++ ((hiT ca hh ka (nI n) rf) ++ ((stT ca kj bj T) ++ ((stT ca h a S) ++ (O ++ Z)))))) (nI np) := by
  refine CtI.ofW (cc := cX4_wipe) (maxL := 2) (rt := .int) (by decide) rfl (Nat.le_of_ble_eq_true rfl) rfl ?_
  intro pr en s m be me c A ls Q H hx hb hml hts hown hev hP hD hA hS hl hret
  have hown : s.vm.findClass RX4 = some m.cls := hown
  have hl : lv_has ls 2 [(0, .ref xo)] := hl
  have in_wsX40 : ∀ w ∈ wsX40, w ∈ wsX4_wipe := fun _ h => List.mem_cons_of_mem _ (List.mem_append_left _ (List.mem_append_right _ h))
  have in_wsX10 : ∀ w ∈ wsX10, w ∈ wsX4_wipe := fun _ h => List.mem_cons_of_mem _ (List.mem_append_right _ h)
  refine lv_aload_n hx hb dX4_wipe_0 rfl (lv_at hl 0 rfl) ?_
  refine va_get (D := G) (ci := 4) (v := .ref hp) (C := RX4) (T := TX4) (N := 4) hx hb hts in_wsX40 hown hev.1 hP 0 rfl rfl 1 (by decide) (hts (.fieldLink RX4 19 "PuddleMinistries" "pad" "LPuddleMinistries$Pad;") (List.mem_of_getElem? (i := 1) rfl)) (fun _ h9 => h9) rfl dX4_wipe_1 ?_
  refine va_get (D := G) (ci := 1) (v := .int (nI np)) (C := RX1) (T := TX1) (N := 2) hx hb hts in_wsX10 hown hev.1 hP 1 rfl rfl 1 (by decide) (hts (.fieldLink RX4 128 "PuddleMinistries$Pad" "length" "I") (List.mem_of_getElem? (i := 2) rfl)) (fun _ h9 => h9) rfl dX4_wipe_4 ?_
  refine lv_istore_n (lv' := [(1, .int (nI np)), (0, .ref xo)]) hx hb dX4_wipe_7 rfl hl (by decide) rfl (fun ls hl => ?_)
  refine lv_aload_n hx hb dX4_wipe_8 rfl (lv_at hl 1 rfl) ?_
  refine va_get (D := G) (ci := 4) (v := .ref hp) (C := RX4) (T := TX4) (N := 4) hx hb hts in_wsX40 hown hev.1 hP 0 rfl rfl 1 (by decide) (hts (.fieldLink RX4 19 "PuddleMinistries" "pad" "LPuddleMinistries$Pad;") (List.mem_of_getElem? (i := 1) rfl)) (fun _ h9 => h9) rfl dX4_wipe_9 ?_
  refine lv_iconst (v := nI 0) hx hb dX4_wipe_12 (by decide) ?_
  refine va_put (D := G) (ci := 1) (v := .int (nI 0)) (ty := .int) (C := RX1) (T := TX1) (N := 2) hx hb hts in_wsX10 tyX1 tyX1_ok nmX1 hown hev.1 hP hD hS 1 rfl rfl 1 (by decide) (hts (.fieldLink RX4 128 "PuddleMinistries$Pad" "length" "I") (List.mem_of_getElem? (i := 2) rfl)) (fun _ h9 => h9) rfl (by decide +kernel) rfl rfl (Nat.le_of_ble_eq_true rfl) dX4_wipe_13 (fun H locs hP hD hS => ?_)
  have hP : va_P G vwCl ((xoT xo h hp hh sl) ++ ((paT ca hp ap (g, nI 0)) ++ ((hiT ca hh ka (nI n) rf) ++ ((stT ca kj bj T) ++ ((stT ca h a S) ++ (O ++ Z)))))) H := hP
  have hD : va_D A ((xoT xo h hp hh sl) ++ ((paT ca hp ap (g, nI 0)) ++ ((hiT ca hh ka (nI n) rf) ++ ((stT ca kj bj T) ++ ((stT ca h a S) ++ (O ++ Z)))))) := hD
  refine lv_iload_n hx hb dX4_wipe_16 rfl (lv_at hl 0 rfl) ?_
  exact hret _ _ _ _ hP hS dX4_wipe_17
set_option maxHeartbeats 4000000 in
set_option maxRecDepth 100000 in
theorem c_X4_fault (l : Launch) (G : va_G) (ca : Nat → ClassId) (xo sl : Nat) (hp ap : Nat) (g : Nat → Int32) (np : Nat) (hh ka : Nat) (n : Nat) (rf : Nat → Option Nat) (kj : Nat) (bj : Nat → Nat) (T : SS) (h : Nat) (a : Nat → Nat) (S : SS) (O : va_W) (Z : va_W) (hnp : np ≤ 60) : CtI l yX4_fault wsX4_fault ({ frames := 2, cells := 0, slots := 0, locals := 43 }) [.ref xo] G ca ((xoT xo h hp hh sl) ++ ((paT ca hp ap (g, nI np)) ++ ((hiT ca hh ka (nI n) rf) ++ ((stT ca kj bj T) ++ ((stT ca h a S) ++ (O ++ Z)))))) ((xoT xo h hp hh sl) ++ ((paT ca hp ap (g, nI np)) ++ ((hiT ca hh ka (nI n) rf) ++ ((stT ca kj bj T) ++ ((stT ca h a S) ++ (O ++ Z)))))) (ffG g np np 0) := by
  refine CtI.ofW (cc := cX4_fault) (maxL := 1) (rt := .int) (by decide) rfl (Nat.le_of_ble_eq_true rfl) rfl ?_
  intro pr en s m be me c A ls Q H hx hb hml hts hown hev hP hD hA hS hl hret
  have hown : s.vm.findClass RX4 = some m.cls := hown
  have hl : lv_has ls 1 [(0, .ref xo)] := hl
  have in_wsX40 : ∀ w ∈ wsX40, w ∈ wsX4_fault := fun _ h => List.mem_cons_of_mem _ (List.mem_append_left _ (List.mem_append_right _ h))
  have in_wsX10 : ∀ w ∈ wsX10, w ∈ wsX4_fault := fun _ h => List.mem_cons_of_mem _ (List.mem_append_right _ h)
  refine lv_aload_n hx hb dX4_fault_0 rfl (lv_at hl 0 rfl) ?_
  refine va_get (D := G) (ci := 4) (v := .ref hp) (C := RX4) (T := TX4) (N := 4) hx hb hts in_wsX40 hown hev.1 hP 0 rfl rfl 1 (by decide) (hts (.fieldLink RX4 19 "PuddleMinistries" "pad" "LPuddleMinistries$Pad;") (List.mem_of_getElem? (i := 1) rfl)) (fun _ h9 => h9) rfl dX4_fault_1 ?_
  have hP : va_P G vwCl ((xoT xo h hp hh sl) ++ ((paT ca hp ap (g, nI np)) ++ ((hiT ca hh ka (nI n) rf) ++ ((stT ca kj bj T) ++ ((stT ca h a S) ++ (O ++ Z)))))) H := hP
  have hD : va_D A ((xoT xo h hp hh sl) ++ ((paT ca hp ap (g, nI np)) ++ ((hiT ca hh ka (nI n) rf) ++ ((stT ca kj bj T) ++ ((stT ca h a S) ++ (O ++ Z)))))) := hD
  refine goI (va_runV (As := []) (rest := []) ⟨hx, hb, hml, hown, hts⟩ (CtI.use (c_X1_findFault l G ca hp ap g np (by omega)) H.size) (cwV 0 hts gX4_fault_X1_findFault rfl rfl rfl (by decide +kernel) ⟨Nat.le_of_ble_eq_true rfl, Nat.le_of_ble_eq_true rfl⟩) (pcW_V hev (P_left (P_right hP)) (D_left (D_right hD)) (q0 := 0) rfl rfl rfl) rfl rfl hl.1 rfl (lv_room (Nat.le_of_ble_eq_true rfl)) dX4_fault_4 ⟨Nat.zero_le _, Nat.zero_le _⟩) hP hD hS hA paF (fun H locs hP hD hS => ?_)
  have hP : va_P G vwCl ((xoT xo h hp hh sl) ++ ((paT ca hp ap (g, nI np)) ++ ((hiT ca hh ka (nI n) rf) ++ ((stT ca kj bj T) ++ ((stT ca h a S) ++ (O ++ Z)))))) H := hP
  have hD : va_D A ((xoT xo h hp hh sl) ++ ((paT ca hp ap (g, nI np)) ++ ((hiT ca hh ka (nI n) rf) ++ ((stT ca kj bj T) ++ ((stT ca h a S) ++ (O ++ Z)))))) := hD
  exact hret _ _ _ _ hP hS dX4_fault_7
set_option maxHeartbeats 4000000 in
set_option maxRecDepth 100000 in
theorem c_X4_undo_none (l : Launch) (G : va_G) (ca : Nat → ClassId) (xo hp sl : Nat) (hh ka : Nat) (n : Nat) (rf : Nat → Option Nat) (h : Nat) (a : Nat → Nat) (S : SS) (kj : Nat) (bj : Nat → Nat) (T : SS) (Z : va_W) (hn0 : n = 0) : CtI l yX4_undo wsX4_undo ({ frames := 0, cells := 0, slots := 0, locals := 0 }) [.ref xo] G ca ((xoT xo h hp hh sl) ++ ((hiT ca hh ka (nI n) rf) ++ ((stT ca h a S) ++ ((stT ca kj bj T) ++ Z)))) ((xoT xo h hp hh sl) ++ ((hiT ca hh ka (nI n) rf) ++ ((stT ca h a S) ++ ((stT ca kj bj T) ++ Z)))) (-5) := by
  refine CtI.ofW (cc := cX4_undo) (maxL := 1) (rt := .int) (by decide) rfl (Nat.le_of_ble_eq_true rfl) rfl ?_
  intro pr en s m be me c A ls Q H hx hb hml hts hown hev hP hD hA hS hl hret
  have hown : s.vm.findClass RX4 = some m.cls := hown
  have hl : lv_has ls 1 [(0, .ref xo)] := hl
  have in_wsX40 : ∀ w ∈ wsX40, w ∈ wsX4_undo := fun _ h => List.mem_cons_of_mem _ (List.mem_append_left _ (List.mem_append_left _ (List.mem_append_right _ h)))
  have in_wsX00 : ∀ w ∈ wsX00, w ∈ wsX4_undo := fun _ h => List.mem_cons_of_mem _ (List.mem_append_left _ (List.mem_append_right _ h))
  have in_wsX30 : ∀ w ∈ wsX30, w ∈ wsX4_undo := fun _ h => List.mem_cons_of_mem _ (List.mem_append_right _ h)
  refine lv_aload_n hx hb dX4_undo_0 rfl (lv_at hl 0 rfl) ?_
  refine va_get (D := G) (ci := 4) (v := .ref hh) (C := RX4) (T := TX4) (N := 4) hx hb hts in_wsX40 hown hev.1 hP 0 rfl rfl 2 (by decide) (hts (.fieldLink RX4 26 "PuddleMinistries" "history" "LPuddleMinistries$History;") (List.mem_of_getElem? (i := 1) rfl)) (fun _ h9 => h9) rfl dX4_undo_1 ?_
  refine va_get (D := G) (ci := 0) (v := .int (nI n)) (C := RX0) (T := TX0) (N := 2) hx hb hts in_wsX00 hown hev.1 hP 1 rfl rfl 1 (by decide) (hts (.fieldLink RX4 173 "PuddleMinistries$History" "size" "I") (List.mem_of_getElem? (i := 2) rfl)) (fun _ h9 => h9) rfl dX4_undo_4 ?_
  refine lv_if_ne (tgt := 13) hx hb dX4_undo_7 (by decide) (fun c_1 => ?_) (fun c_1 => ?_)
  · skip
    exact absurd (by rw [hn0]; rfl) c_1
  · skip
    refine lv_bipush (v := (-5)) hx hb dX4_undo_10 (by decide) ?_
    exact hret _ _ _ _ hP hS dX4_undo_12
set_option maxHeartbeats 4000000 in
set_option maxRecDepth 100000 in
theorem c_X4_undo_ok (l : Launch) (G : va_G) (ca : Nat → ClassId) (xo hp sl : Nat) (hh ka : Nat) (n : Nat) (rf : Nat → Option Nat) (h : Nat) (a : Nat → Nat) (S : SS) (kj : Nat) (bj : Nat → Nat) (T : SS) (Z : va_W) (hn0 : 0 < n) (hn6 : n ≤ 6) (hkj : rf (n - 1) = some kj) : CtI l yX4_undo wsX4_undo ({ frames := 3, cells := 0, slots := 0, locals := 64 }) [.ref xo] G ca ((xoT xo h hp hh sl) ++ ((hiT ca hh ka (nI n) rf) ++ ((stT ca h a S) ++ ((stT ca kj bj T) ++ Z)))) ((xoT xo h hp hh sl) ++ ((hiT ca hh ka (nI (n - 1)) rf) ++ ((stT ca h a T) ++ ((stT ca kj bj T) ++ Z)))) (nI (n - 1)) := by
  refine CtI.ofW (cc := cX4_undo) (maxL := 1) (rt := .int) (by decide) rfl (Nat.le_of_ble_eq_true rfl) rfl ?_
  intro pr en s m be me c A ls Q H hx hb hml hts hown hev hP hD hA hS hl hret
  have hown : s.vm.findClass RX4 = some m.cls := hown
  have hl : lv_has ls 1 [(0, .ref xo)] := hl
  have in_wsX40 : ∀ w ∈ wsX40, w ∈ wsX4_undo := fun _ h => List.mem_cons_of_mem _ (List.mem_append_left _ (List.mem_append_left _ (List.mem_append_right _ h)))
  have in_wsX00 : ∀ w ∈ wsX00, w ∈ wsX4_undo := fun _ h => List.mem_cons_of_mem _ (List.mem_append_left _ (List.mem_append_right _ h))
  have in_wsX30 : ∀ w ∈ wsX30, w ∈ wsX4_undo := fun _ h => List.mem_cons_of_mem _ (List.mem_append_right _ h)
  refine lv_aload_n hx hb dX4_undo_0 rfl (lv_at hl 0 rfl) ?_
  refine va_get (D := G) (ci := 4) (v := .ref hh) (C := RX4) (T := TX4) (N := 4) hx hb hts in_wsX40 hown hev.1 hP 0 rfl rfl 2 (by decide) (hts (.fieldLink RX4 26 "PuddleMinistries" "history" "LPuddleMinistries$History;") (List.mem_of_getElem? (i := 1) rfl)) (fun _ h9 => h9) rfl dX4_undo_1 ?_
  refine va_get (D := G) (ci := 0) (v := .int (nI n)) (C := RX0) (T := TX0) (N := 2) hx hb hts in_wsX00 hown hev.1 hP 1 rfl rfl 1 (by decide) (hts (.fieldLink RX4 173 "PuddleMinistries$History" "size" "I") (List.mem_of_getElem? (i := 2) rfl)) (fun _ h9 => h9) rfl dX4_undo_4 ?_
  refine lv_if_ne (tgt := 13) hx hb dX4_undo_7 (by decide) (fun c_1 => ?_) (fun c_1 => ?_)
  · skip
    refine lv_aload_n hx hb dX4_undo_13 rfl (lv_at hl 0 rfl) ?_
    refine va_get (D := G) (ci := 4) (v := .ref hh) (C := RX4) (T := TX4) (N := 4) hx hb hts in_wsX40 hown hev.1 hP 0 rfl rfl 2 (by decide) (hts (.fieldLink RX4 26 "PuddleMinistries" "history" "LPuddleMinistries$History;") (List.mem_of_getElem? (i := 1) rfl)) (fun _ h9 => h9) rfl dX4_undo_14 ?_
    refine lv_aload_n hx hb dX4_undo_17 rfl (lv_at hl 0 rfl) ?_
    refine va_get (D := G) (ci := 4) (v := .ref h) (C := RX4) (T := TX4) (N := 4) hx hb hts in_wsX40 hown hev.1 hP 0 rfl rfl 0 (by decide) (hts (.fieldLink RX4 10 "PuddleMinistries" "street" "LPuddleMinistries$Street;") (List.mem_of_getElem? (i := 3) rfl)) (fun _ h9 => h9) rfl dX4_undo_18 ?_
    have hP : va_P G vwCl ((xoT xo h hp hh sl) ++ (((hiT ca hh ka (nI n) rf) ++ ((stT ca h a S) ++ (stT ca kj bj T))) ++ Z)) H := hP
    have hD : va_D A ((xoT xo h hp hh sl) ++ (((hiT ca hh ka (nI n) rf) ++ ((stT ca h a S) ++ (stT ca kj bj T))) ++ Z)) := hD
    refine goV (va_runV (As := [.ref h]) (rest := []) ⟨hx, hb, hml, hown, hts⟩ (CtV.use (c_X0_takeBack l G ca hh ka n rf h a S kj bj T (by omega) (by omega) hkj) H.size) (cwV 1 hts gX4_undo_X0_takeBack rfl rfl rfl (by decide +kernel) ⟨Nat.le_of_ble_eq_true rfl, Nat.le_of_ble_eq_true rfl⟩) (pcW_V hev (P_left (P_right hP)) (D_left (D_right hD)) (q0 := 0) rfl rfl rfl) rfl rfl hl.1 rfl (lv_room (Nat.le_of_ble_eq_true rfl)) dX4_undo_21 ⟨Nat.zero_le _, Nat.zero_le _⟩) hP hD hS hA (app_F hiF (app_F stF stF)) (fun H locs hP hD hS => ?_)
    have hP : va_P G vwCl ((xoT xo h hp hh sl) ++ ((hiT ca hh ka (nI (n - 1)) rf) ++ ((stT ca h a T) ++ ((stT ca kj bj T) ++ Z)))) H := hP
    have hD : va_D A ((xoT xo h hp hh sl) ++ ((hiT ca hh ka (nI (n - 1)) rf) ++ ((stT ca h a T) ++ ((stT ca kj bj T) ++ Z)))) := hD
    refine lv_aload_n hx hb dX4_undo_24 rfl (lv_at hl 0 rfl) ?_
    refine va_get (D := G) (ci := 4) (v := .ref hh) (C := RX4) (T := TX4) (N := 4) hx hb hts in_wsX40 hown hev.1 hP 0 rfl rfl 2 (by decide) (hts (.fieldLink RX4 26 "PuddleMinistries" "history" "LPuddleMinistries$History;") (List.mem_of_getElem? (i := 1) rfl)) (fun _ h9 => h9) rfl dX4_undo_25 ?_
    refine va_get (D := G) (ci := 0) (v := .int (nI (n - 1))) (C := RX0) (T := TX0) (N := 2) hx hb hts in_wsX00 hown hev.1 hP 1 rfl rfl 1 (by decide) (hts (.fieldLink RX4 173 "PuddleMinistries$History" "size" "I") (List.mem_of_getElem? (i := 2) rfl)) (fun _ h9 => h9) rfl dX4_undo_28 ?_
    exact hret _ _ _ _ hP hS dX4_undo_31
  · skip
    exact absurd c_1 (nI_ne0 hn0 (by omega))
set_option maxHeartbeats 4000000 in
set_option maxRecDepth 100000 in
theorem c_X4_save_out (l : Launch) (G : va_G) (ca : Nat → ClassId) (xo hp hh : Nat) (sl ka2 ua : Nat) (srf : Nat → Option Nat) (us : Nat → Int32) (ks : Nat) (bs : Nat → Nat) (T2 : SS) (h : Nat) (a : Nat → Nat) (S : SS) (Z : va_W) (x : Int32) (hx0 : x < 0 ∨ nI 2 ≤ x) : CtI l yX4_save wsX4_save ({ frames := 0, cells := 0, slots := 0, locals := 0 }) [.ref xo, .int x] G ca ((xoT xo h hp hh sl) ++ ((slT ca sl ka2 ua srf us) ++ ((stT ca ks bs T2) ++ ((stT ca h a S) ++ Z)))) ((xoT xo h hp hh sl) ++ ((slT ca sl ka2 ua srf us) ++ ((stT ca ks bs T2) ++ ((stT ca h a S) ++ Z)))) (-2) := by
  refine CtI.ofW (cc := cX4_save) (maxL := 2) (rt := .int) (by decide) rfl (Nat.le_of_ble_eq_true rfl) rfl ?_
  intro pr en s m be me c A ls Q H hx hb hml hts hown hev hP hD hA hS hl hret
  have hown : s.vm.findClass RX4 = some m.cls := hown
  have hl : lv_has ls 2 [(0, .ref xo), (1, .int x)] := hl
  have in_wsX40 : ∀ w ∈ wsX40, w ∈ wsX4_save := fun _ h => List.mem_cons_of_mem _ (List.mem_append_left _ (List.mem_append_left _ (List.mem_append_right _ h)))
  have in_wsX20 : ∀ w ∈ wsX20, w ∈ wsX4_save := fun _ h => List.mem_cons_of_mem _ (List.mem_append_left _ (List.mem_append_right _ h))
  have in_wsX30 : ∀ w ∈ wsX30, w ∈ wsX4_save := fun _ h => List.mem_cons_of_mem _ (List.mem_append_right _ h)
  refine lv_iload_n hx hb dX4_save_0 rfl (lv_at hl 1 rfl) ?_
  refine lv_if_lt (tgt := 9) hx hb dX4_save_1 (by decide) (fun c_1 => ?_) (fun c_1 => ?_)
  · skip
    refine lv_bipush (v := (-2)) hx hb dX4_save_9 (by decide) ?_
    exact hret _ _ _ _ hP hS dX4_save_11
  · skip
    refine lv_iload_n hx hb dX4_save_4 rfl (lv_at hl 1 rfl) ?_
    refine lv_iconst (v := nI 2) hx hb dX4_save_5 (by decide) ?_
    refine lv_icmp_lt (tgt := 12) hx hb dX4_save_6 (by decide) (fun c_2 => ?_) (fun c_2 => ?_)
    · skip
      exact absurd c_2 (Int32.not_lt.mpr (nI_out hx0 (by assumption)))
    · skip
      refine lv_bipush (v := (-2)) hx hb dX4_save_9 (by decide) ?_
      exact hret _ _ _ _ hP hS dX4_save_11
set_option maxHeartbeats 4000000 in
set_option maxRecDepth 100000 in
theorem c_X4_restore_out (l : Launch) (G : va_G) (ca : Nat → ClassId) (xo hp hh : Nat) (sl ka2 ua : Nat) (srf : Nat → Option Nat) (us : Nat → Int32) (ks : Nat) (bs : Nat → Nat) (T2 : SS) (h : Nat) (a : Nat → Nat) (S : SS) (Z : va_W) (x : Int32) (hx0 : x < 0 ∨ nI 2 ≤ x) : CtI l yX4_restore wsX4_restore ({ frames := 0, cells := 0, slots := 0, locals := 0 }) [.ref xo, .int x] G ca ((xoT xo h hp hh sl) ++ ((slT ca sl ka2 ua srf us) ++ ((stT ca ks bs T2) ++ ((stT ca h a S) ++ Z)))) ((xoT xo h hp hh sl) ++ ((slT ca sl ka2 ua srf us) ++ ((stT ca ks bs T2) ++ ((stT ca h a S) ++ Z)))) (-2) := by
  refine CtI.ofW (cc := cX4_restore) (maxL := 2) (rt := .int) (by decide) rfl (Nat.le_of_ble_eq_true rfl) rfl ?_
  intro pr en s m be me c A ls Q H hx hb hml hts hown hev hP hD hA hS hl hret
  have hown : s.vm.findClass RX4 = some m.cls := hown
  have hl : lv_has ls 2 [(0, .ref xo), (1, .int x)] := hl
  have in_wsX40 : ∀ w ∈ wsX40, w ∈ wsX4_restore := fun _ h => List.mem_cons_of_mem _ (List.mem_append_left _ (List.mem_append_left _ (List.mem_append_left _ (List.mem_append_right _ h))))
  have in_wsX20 : ∀ w ∈ wsX20, w ∈ wsX4_restore := fun _ h => List.mem_cons_of_mem _ (List.mem_append_left _ (List.mem_append_left _ (List.mem_append_right _ h)))
  have in_wsX30 : ∀ w ∈ wsX30, w ∈ wsX4_restore := fun _ h => List.mem_cons_of_mem _ (List.mem_append_left _ (List.mem_append_right _ h))
  have in_wsX00 : ∀ w ∈ wsX00, w ∈ wsX4_restore := fun _ h => List.mem_cons_of_mem _ (List.mem_append_right _ h)
  refine lv_iload_n hx hb dX4_restore_0 rfl (lv_at hl 1 rfl) ?_
  refine lv_if_lt (tgt := 9) hx hb dX4_restore_1 (by decide) (fun c_1 => ?_) (fun c_1 => ?_)
  · skip
    refine lv_bipush (v := (-2)) hx hb dX4_restore_9 (by decide) ?_
    exact hret _ _ _ _ hP hS dX4_restore_11
  · skip
    refine lv_iload_n hx hb dX4_restore_4 rfl (lv_at hl 1 rfl) ?_
    refine lv_iconst (v := nI 2) hx hb dX4_restore_5 (by decide) ?_
    refine lv_icmp_lt (tgt := 12) hx hb dX4_restore_6 (by decide) (fun c_2 => ?_) (fun c_2 => ?_)
    · skip
      exact absurd c_2 (Int32.not_lt.mpr (nI_out hx0 (by assumption)))
    · skip
      refine lv_bipush (v := (-2)) hx hb dX4_restore_9 (by decide) ?_
      exact hret _ _ _ _ hP hS dX4_restore_11
set_option maxHeartbeats 4000000 in
set_option maxRecDepth 100000 in
theorem c_X4_save_ok (l : Launch) (G : va_G) (ca : Nat → ClassId) (xo hp hh : Nat) (sl ka2 ua : Nat) (srf : Nat → Option Nat) (us : Nat → Int32) (ks : Nat) (bs : Nat → Nat) (T2 : SS) (h : Nat) (a : Nat → Nat) (S : SS) (Z : va_W) (k : Nat) (hk2 : k < 2) (hsk : srf k = some ks) : CtI l yX4_save wsX4_save ({ frames := 2, cells := 0, slots := 0, locals := 43 }) [.ref xo, .int (nI k)] G ca ((xoT xo h hp hh sl) ++ ((slT ca sl ka2 ua srf us) ++ ((stT ca ks bs T2) ++ ((stT ca h a S) ++ Z)))) ((xoT xo h hp hh sl) ++ ((slT ca sl ka2 ua srf (upd us k 1)) ++ ((stT ca ks bs S) ++ ((stT ca h a S) ++ Z)))) (s_dy S) := by
  refine CtI.ofW (cc := cX4_save) (maxL := 2) (rt := .int) (by decide) rfl (Nat.le_of_ble_eq_true rfl) rfl ?_
  intro pr en s m be me c A ls Q H hx hb hml hts hown hev hP hD hA hS hl hret
  have hown : s.vm.findClass RX4 = some m.cls := hown
  have hl : lv_has ls 2 [(0, .ref xo), (1, .int (nI k))] := hl
  have in_wsX40 : ∀ w ∈ wsX40, w ∈ wsX4_save := fun _ h => List.mem_cons_of_mem _ (List.mem_append_left _ (List.mem_append_left _ (List.mem_append_right _ h)))
  have in_wsX20 : ∀ w ∈ wsX20, w ∈ wsX4_save := fun _ h => List.mem_cons_of_mem _ (List.mem_append_left _ (List.mem_append_right _ h))
  have in_wsX30 : ∀ w ∈ wsX30, w ∈ wsX4_save := fun _ h => List.mem_cons_of_mem _ (List.mem_append_right _ h)
  refine lv_iload_n hx hb dX4_save_0 rfl (lv_at hl 1 rfl) ?_
  refine lv_if_lt (tgt := 9) hx hb dX4_save_1 (by decide) (fun c_1 => ?_) (fun c_1 => ?_)
  · skip
    exact absurd c_1 (nI_pos (by omega))
  · skip
    refine lv_iload_n hx hb dX4_save_4 rfl (lv_at hl 1 rfl) ?_
    refine lv_iconst (v := nI 2) hx hb dX4_save_5 (by decide) ?_
    refine lv_icmp_lt (tgt := 12) hx hb dX4_save_6 (by decide) (fun c_2 => ?_) (fun c_2 => ?_)
    · skip
      refine lv_aload_n hx hb dX4_save_12 rfl (lv_at hl 0 rfl) ?_
      refine va_get (D := G) (ci := 4) (v := .ref sl) (C := RX4) (T := TX4) (N := 4) hx hb hts in_wsX40 hown hev.1 hP 0 rfl rfl 3 (by decide) (hts (.fieldLink RX4 33 "PuddleMinistries" "slots" "LPuddleMinistries$Slots;") (List.mem_of_getElem? (i := 1) rfl)) (fun _ h9 => h9) rfl dX4_save_13 ?_
      refine va_get (D := G) (ci := 2) (v := .ref ka2) (C := RX2) (T := TX2) (N := 2) hx hb hts in_wsX20 hown hev.1 hP 1 rfl rfl 0 (by decide) (hts (.fieldLink RX4 200 "PuddleMinistries$Slots" "kept" "[LPuddleMinistries$Street;") (List.mem_of_getElem? (i := 2) rfl)) (fun _ h9 => h9) rfl dX4_save_16 ?_
      refine lv_iload_n hx hb dX4_save_19 rfl (lv_at hl 1 rfl) ?_
      refine b_aald hx hb hev.1 hP 2 rfl rfl (j := k) (by omega) (by decide) (v := ks) hsk dX4_save_20 ?_
      refine lv_aload_n hx hb dX4_save_21 rfl (lv_at hl 0 rfl) ?_
      refine va_get (D := G) (ci := 4) (v := .ref h) (C := RX4) (T := TX4) (N := 4) hx hb hts in_wsX40 hown hev.1 hP 0 rfl rfl 0 (by decide) (hts (.fieldLink RX4 10 "PuddleMinistries" "street" "LPuddleMinistries$Street;") (List.mem_of_getElem? (i := 3) rfl)) (fun _ h9 => h9) rfl dX4_save_22 ?_
      have hP : va_P G vwCl (((xoT xo h hp hh sl) ++ (slT ca sl ka2 ua srf us)) ++ (((stT ca ks bs T2) ++ (stT ca h a S)) ++ Z)) H := hP
      have hD : va_D A (((xoT xo h hp hh sl) ++ (slT ca sl ka2 ua srf us)) ++ (((stT ca ks bs T2) ++ (stT ca h a S)) ++ Z)) := hD
      refine goV (va_runV (As := [.ref h]) (rest := []) ⟨hx, hb, hml, hown, hts⟩ (CtV.use (c_X3_copyFrom l G ca ks bs T2 h a S) H.size) (cwV 1 hts gX4_save_X3_copyFrom rfl rfl rfl (by decide +kernel) ⟨Nat.le_of_ble_eq_true rfl, Nat.le_of_ble_eq_true rfl⟩) (pcW_V hev (P_left (P_right hP)) (D_left (D_right hD)) (q0 := 0) rfl rfl rfl) rfl rfl hl.1 rfl (lv_room (Nat.le_of_ble_eq_true rfl)) dX4_save_25 ⟨Nat.zero_le _, Nat.zero_le _⟩) hP hD hS hA (app_F stF stF) (fun H locs hP hD hS => ?_)
      have hP : va_P G vwCl ((xoT xo h hp hh sl) ++ ((slT ca sl ka2 ua srf us) ++ ((stT ca ks bs S) ++ ((stT ca h a S) ++ Z)))) H := hP
      have hD : va_D A ((xoT xo h hp hh sl) ++ ((slT ca sl ka2 ua srf us) ++ ((stT ca ks bs S) ++ ((stT ca h a S) ++ Z)))) := hD
      refine lv_aload_n hx hb dX4_save_28 rfl (lv_at hl 0 rfl) ?_
      refine va_get (D := G) (ci := 4) (v := .ref sl) (C := RX4) (T := TX4) (N := 4) hx hb hts in_wsX40 hown hev.1 hP 0 rfl rfl 3 (by decide) (hts (.fieldLink RX4 33 "PuddleMinistries" "slots" "LPuddleMinistries$Slots;") (List.mem_of_getElem? (i := 1) rfl)) (fun _ h9 => h9) rfl dX4_save_29 ?_
      refine va_get (D := G) (ci := 2) (v := .ref ua) (C := RX2) (T := TX2) (N := 2) hx hb hts in_wsX20 hown hev.1 hP 1 rfl rfl 1 (by decide) (hts (.fieldLink RX4 207 "PuddleMinistries$Slots" "used" "[Z") (List.mem_of_getElem? (i := 4) rfl)) (fun _ h9 => h9) rfl dX4_save_32 ?_
      refine lv_iload_n hx hb dX4_save_35 rfl (lv_at hl 1 rfl) ?_
      refine lv_iconst (v := 1) hx hb dX4_save_36 (by decide) ?_
      refine b_zast hx hb hev.1 hP hD hS 3 rfl rfl (j := k) (by omega) (by decide) dX4_save_37 (fun H locs hP hD hS => ?_)
      have hP : va_P G vwCl ((xoT xo h hp hh sl) ++ ((slT ca sl ka2 ua srf (upd us k 1)) ++ ((stT ca ks bs S) ++ ((stT ca h a S) ++ Z)))) H := hP
      have hD : va_D A ((xoT xo h hp hh sl) ++ ((slT ca sl ka2 ua srf (upd us k 1)) ++ ((stT ca ks bs S) ++ ((stT ca h a S) ++ Z)))) := hD
      refine lv_aload_n hx hb dX4_save_38 rfl (lv_at hl 0 rfl) ?_
      refine va_get (D := G) (ci := 4) (v := .ref h) (C := RX4) (T := TX4) (N := 4) hx hb hts in_wsX40 hown hev.1 hP 0 rfl rfl 0 (by decide) (hts (.fieldLink RX4 10 "PuddleMinistries" "street" "LPuddleMinistries$Street;") (List.mem_of_getElem? (i := 3) rfl)) (fun _ h9 => h9) rfl dX4_save_39 ?_
      refine va_get (D := G) (ci := 3) (v := .int (s_dy S)) (C := RX3) (T := TX3) (N := 15) hx hb hts in_wsX30 hown hev.1 hP 14 rfl rfl 11 (by decide) (hts (.fieldLink RX4 110 "PuddleMinistries$Street" "days" "I") (List.mem_of_getElem? (i := 5) rfl)) (fun _ h9 => h9) rfl dX4_save_42 ?_
      exact hret _ _ _ _ hP hS dX4_save_45
    · skip
      exact absurd (nI_lt (by omega) (by omega)) c_2
set_option maxHeartbeats 4000000 in
set_option maxRecDepth 100000 in
theorem c_X4_restore_none (l : Launch) (G : va_G) (ca : Nat → ClassId) (xo hp hh : Nat) (sl ka2 ua : Nat) (srf : Nat → Option Nat) (us : Nat → Int32) (ks : Nat) (bs : Nat → Nat) (T2 : SS) (h : Nat) (a : Nat → Nat) (S : SS) (Z : va_W) (k : Nat) (hk2 : k < 2) (hu : us k = 0) : CtI l yX4_restore wsX4_restore ({ frames := 0, cells := 0, slots := 0, locals := 0 }) [.ref xo, .int (nI k)] G ca ((xoT xo h hp hh sl) ++ ((slT ca sl ka2 ua srf us) ++ ((stT ca ks bs T2) ++ ((stT ca h a S) ++ Z)))) ((xoT xo h hp hh sl) ++ ((slT ca sl ka2 ua srf us) ++ ((stT ca ks bs T2) ++ ((stT ca h a S) ++ Z)))) (-5) := by
  refine CtI.ofW (cc := cX4_restore) (maxL := 2) (rt := .int) (by decide) rfl (Nat.le_of_ble_eq_true rfl) rfl ?_
  intro pr en s m be me c A ls Q H hx hb hml hts hown hev hP hD hA hS hl hret
  have hown : s.vm.findClass RX4 = some m.cls := hown
  have hl : lv_has ls 2 [(0, .ref xo), (1, .int (nI k))] := hl
  have in_wsX40 : ∀ w ∈ wsX40, w ∈ wsX4_restore := fun _ h => List.mem_cons_of_mem _ (List.mem_append_left _ (List.mem_append_left _ (List.mem_append_left _ (List.mem_append_right _ h))))
  have in_wsX20 : ∀ w ∈ wsX20, w ∈ wsX4_restore := fun _ h => List.mem_cons_of_mem _ (List.mem_append_left _ (List.mem_append_left _ (List.mem_append_right _ h)))
  have in_wsX30 : ∀ w ∈ wsX30, w ∈ wsX4_restore := fun _ h => List.mem_cons_of_mem _ (List.mem_append_left _ (List.mem_append_right _ h))
  have in_wsX00 : ∀ w ∈ wsX00, w ∈ wsX4_restore := fun _ h => List.mem_cons_of_mem _ (List.mem_append_right _ h)
  refine lv_iload_n hx hb dX4_restore_0 rfl (lv_at hl 1 rfl) ?_
  refine lv_if_lt (tgt := 9) hx hb dX4_restore_1 (by decide) (fun c_1 => ?_) (fun c_1 => ?_)
  · skip
    exact absurd c_1 (nI_pos (by omega))
  · skip
    refine lv_iload_n hx hb dX4_restore_4 rfl (lv_at hl 1 rfl) ?_
    refine lv_iconst (v := nI 2) hx hb dX4_restore_5 (by decide) ?_
    refine lv_icmp_lt (tgt := 12) hx hb dX4_restore_6 (by decide) (fun c_2 => ?_) (fun c_2 => ?_)
    · skip
      refine lv_aload_n hx hb dX4_restore_12 rfl (lv_at hl 0 rfl) ?_
      refine va_get (D := G) (ci := 4) (v := .ref sl) (C := RX4) (T := TX4) (N := 4) hx hb hts in_wsX40 hown hev.1 hP 0 rfl rfl 3 (by decide) (hts (.fieldLink RX4 33 "PuddleMinistries" "slots" "LPuddleMinistries$Slots;") (List.mem_of_getElem? (i := 1) rfl)) (fun _ h9 => h9) rfl dX4_restore_13 ?_
      refine va_get (D := G) (ci := 2) (v := .ref ua) (C := RX2) (T := TX2) (N := 2) hx hb hts in_wsX20 hown hev.1 hP 1 rfl rfl 1 (by decide) (hts (.fieldLink RX4 207 "PuddleMinistries$Slots" "used" "[Z") (List.mem_of_getElem? (i := 2) rfl)) (fun _ h9 => h9) rfl dX4_restore_16 ?_
      refine lv_iload_n hx hb dX4_restore_19 rfl (lv_at hl 1 rfl) ?_
      refine b_zald hx hb hev.1 hP 3 rfl rfl (j := k) (by omega) (by decide) dX4_restore_20 ?_
      refine lv_if_ne (tgt := 27) hx hb dX4_restore_21 (by decide) (fun c_3 => ?_) (fun c_3 => ?_)
      · skip
        exact absurd hu c_3
      · skip
        refine lv_bipush (v := (-5)) hx hb dX4_restore_24 (by decide) ?_
        exact hret _ _ _ _ hP hS dX4_restore_26
    · skip
      exact absurd (nI_lt (by omega) (by omega)) c_2
set_option maxHeartbeats 4000000 in
set_option maxRecDepth 100000 in
theorem c_X4_restore_ok (l : Launch) (G : va_G) (ca : Nat → ClassId) (xo hp : Nat) (sl ka2 ua : Nat) (srf : Nat → Option Nat) (us : Nat → Int32) (hh ka : Nat) (n : Nat) (rf : Nat → Option Nat) (kj : Nat) (bj : Nat → Nat) (T : SS) (h : Nat) (a : Nat → Nat) (S : SS) (ks : Nat) (bs : Nat → Nat) (T2 : SS) (O : va_W) (Z : va_W) (k : Nat) (hn6 : n ≤ 6) (hkj : recT n rf = some kj) (hob : ∀ i, i < 6 → ∃ (v x : Nat) (y : List Value), rf i = some v ∧ (hiT ca hh ka (nI n) rf ++ (stT ca kj bj T ++ (stT ca h a S ++ (stT ca ks bs T2 ++ O))))[x]? = some (v, .inr (3, y))) (hk2 : k < 2) (hu : ¬ us k = 0) (hsk : srf k = some ks) : CtI l yX4_restore wsX4_restore ({ frames := 3, cells := 0, slots := 0, locals := 64 }) [.ref xo, .int (nI k)] G ca ((xoT xo h hp hh sl) ++ ((slT ca sl ka2 ua srf us) ++ ((hiT ca hh ka (nI n) rf) ++ ((stT ca kj bj T) ++ ((stT ca h a S) ++ ((stT ca ks bs T2) ++ (O ++ Z))))))) ((xoT xo h hp hh sl) ++ ((slT ca sl ka2 ua srf us) ++ ((hiT ca hh ka (nI (recN n)) (recR n rf)) ++ ((stT ca kj bj S) ++ ((stT ca h a T2) ++ ((stT ca ks bs T2) ++ (O ++ Z))))))) (s_dy T2) := by
  refine CtI.ofW (cc := cX4_restore) (maxL := 2) (rt := .int) (by decide) rfl (Nat.le_of_ble_eq_true rfl) rfl ?_
  intro pr en s m be me c A ls Q H hx hb hml hts hown hev hP hD hA hS hl hret
  have hown : s.vm.findClass RX4 = some m.cls := hown
  have hl : lv_has ls 2 [(0, .ref xo), (1, .int (nI k))] := hl
  have in_wsX40 : ∀ w ∈ wsX40, w ∈ wsX4_restore := fun _ h => List.mem_cons_of_mem _ (List.mem_append_left _ (List.mem_append_left _ (List.mem_append_left _ (List.mem_append_right _ h))))
  have in_wsX20 : ∀ w ∈ wsX20, w ∈ wsX4_restore := fun _ h => List.mem_cons_of_mem _ (List.mem_append_left _ (List.mem_append_left _ (List.mem_append_right _ h)))
  have in_wsX30 : ∀ w ∈ wsX30, w ∈ wsX4_restore := fun _ h => List.mem_cons_of_mem _ (List.mem_append_left _ (List.mem_append_right _ h))
  have in_wsX00 : ∀ w ∈ wsX00, w ∈ wsX4_restore := fun _ h => List.mem_cons_of_mem _ (List.mem_append_right _ h)
  refine lv_iload_n hx hb dX4_restore_0 rfl (lv_at hl 1 rfl) ?_
  refine lv_if_lt (tgt := 9) hx hb dX4_restore_1 (by decide) (fun c_1 => ?_) (fun c_1 => ?_)
  · skip
    exact absurd c_1 (nI_pos (by omega))
  · skip
    refine lv_iload_n hx hb dX4_restore_4 rfl (lv_at hl 1 rfl) ?_
    refine lv_iconst (v := nI 2) hx hb dX4_restore_5 (by decide) ?_
    refine lv_icmp_lt (tgt := 12) hx hb dX4_restore_6 (by decide) (fun c_2 => ?_) (fun c_2 => ?_)
    · skip
      refine lv_aload_n hx hb dX4_restore_12 rfl (lv_at hl 0 rfl) ?_
      refine va_get (D := G) (ci := 4) (v := .ref sl) (C := RX4) (T := TX4) (N := 4) hx hb hts in_wsX40 hown hev.1 hP 0 rfl rfl 3 (by decide) (hts (.fieldLink RX4 33 "PuddleMinistries" "slots" "LPuddleMinistries$Slots;") (List.mem_of_getElem? (i := 1) rfl)) (fun _ h9 => h9) rfl dX4_restore_13 ?_
      refine va_get (D := G) (ci := 2) (v := .ref ua) (C := RX2) (T := TX2) (N := 2) hx hb hts in_wsX20 hown hev.1 hP 1 rfl rfl 1 (by decide) (hts (.fieldLink RX4 207 "PuddleMinistries$Slots" "used" "[Z") (List.mem_of_getElem? (i := 2) rfl)) (fun _ h9 => h9) rfl dX4_restore_16 ?_
      refine lv_iload_n hx hb dX4_restore_19 rfl (lv_at hl 1 rfl) ?_
      refine b_zald hx hb hev.1 hP 3 rfl rfl (j := k) (by omega) (by decide) dX4_restore_20 ?_
      refine lv_if_ne (tgt := 27) hx hb dX4_restore_21 (by decide) (fun c_3 => ?_) (fun c_3 => ?_)
      · skip
        refine lv_aload_n hx hb dX4_restore_27 rfl (lv_at hl 0 rfl) ?_
        refine va_get (D := G) (ci := 4) (v := .ref hh) (C := RX4) (T := TX4) (N := 4) hx hb hts in_wsX40 hown hev.1 hP 0 rfl rfl 2 (by decide) (hts (.fieldLink RX4 26 "PuddleMinistries" "history" "LPuddleMinistries$History;") (List.mem_of_getElem? (i := 3) rfl)) (fun _ h9 => h9) rfl dX4_restore_28 ?_
        refine lv_aload_n hx hb dX4_restore_31 rfl (lv_at hl 0 rfl) ?_
        refine va_get (D := G) (ci := 4) (v := .ref h) (C := RX4) (T := TX4) (N := 4) hx hb hts in_wsX40 hown hev.1 hP 0 rfl rfl 0 (by decide) (hts (.fieldLink RX4 10 "PuddleMinistries" "street" "LPuddleMinistries$Street;") (List.mem_of_getElem? (i := 4) rfl)) (fun _ h9 => h9) rfl dX4_restore_32 ?_
        have hP : va_P G vwCl (((xoT xo h hp hh sl) ++ (slT ca sl ka2 ua srf us)) ++ (((hiT ca hh ka (nI n) rf) ++ ((stT ca kj bj T) ++ ((stT ca h a S) ++ ((stT ca ks bs T2) ++ O)))) ++ Z)) H := hP
        have hD : va_D A (((xoT xo h hp hh sl) ++ (slT ca sl ka2 ua srf us)) ++ (((hiT ca hh ka (nI n) rf) ++ ((stT ca kj bj T) ++ ((stT ca h a S) ++ ((stT ca ks bs T2) ++ O)))) ++ Z)) := hD
        refine goV (va_runV (As := [.ref h]) (rest := []) ⟨hx, hb, hml, hown, hts⟩ (CtV.use (c_X0_record l G ca hh ka n rf kj bj T h a S ((stT ca ks bs T2) ++ O) hn6 hkj hob) H.size) (cwV 1 hts gX4_restore_X0_record rfl rfl rfl (by decide +kernel) ⟨Nat.le_of_ble_eq_true rfl, Nat.le_of_ble_eq_true rfl⟩) (pcW_V hev (P_left (P_right hP)) (D_left (D_right hD)) (q0 := 0) rfl rfl rfl) rfl rfl hl.1 rfl (lv_room (Nat.le_of_ble_eq_true rfl)) dX4_restore_35 ⟨Nat.zero_le _, Nat.zero_le _⟩) hP hD hS hA (app_F hiF (app_F stF (app_F stF rfl))) (fun H locs hP hD hS => ?_)
        have hP : va_P G vwCl ((xoT xo h hp hh sl) ++ ((slT ca sl ka2 ua srf us) ++ ((hiT ca hh ka (nI (recN n)) (recR n rf)) ++ ((stT ca kj bj S) ++ ((stT ca h a S) ++ ((stT ca ks bs T2) ++ (O ++ Z))))))) H := hP
        have hD : va_D A ((xoT xo h hp hh sl) ++ ((slT ca sl ka2 ua srf us) ++ ((hiT ca hh ka (nI (recN n)) (recR n rf)) ++ ((stT ca kj bj S) ++ ((stT ca h a S) ++ ((stT ca ks bs T2) ++ (O ++ Z))))))) := hD
        refine lv_aload_n hx hb dX4_restore_38 rfl (lv_at hl 0 rfl) ?_
        refine va_get (D := G) (ci := 4) (v := .ref h) (C := RX4) (T := TX4) (N := 4) hx hb hts in_wsX40 hown hev.1 hP 0 rfl rfl 0 (by decide) (hts (.fieldLink RX4 10 "PuddleMinistries" "street" "LPuddleMinistries$Street;") (List.mem_of_getElem? (i := 4) rfl)) (fun _ h9 => h9) rfl dX4_restore_39 ?_
        refine lv_aload_n hx hb dX4_restore_42 rfl (lv_at hl 0 rfl) ?_
        refine va_get (D := G) (ci := 4) (v := .ref sl) (C := RX4) (T := TX4) (N := 4) hx hb hts in_wsX40 hown hev.1 hP 0 rfl rfl 3 (by decide) (hts (.fieldLink RX4 33 "PuddleMinistries" "slots" "LPuddleMinistries$Slots;") (List.mem_of_getElem? (i := 1) rfl)) (fun _ h9 => h9) rfl dX4_restore_43 ?_
        refine va_get (D := G) (ci := 2) (v := .ref ka2) (C := RX2) (T := TX2) (N := 2) hx hb hts in_wsX20 hown hev.1 hP 1 rfl rfl 0 (by decide) (hts (.fieldLink RX4 200 "PuddleMinistries$Slots" "kept" "[LPuddleMinistries$Street;") (List.mem_of_getElem? (i := 5) rfl)) (fun _ h9 => h9) rfl dX4_restore_46 ?_
        refine lv_iload_n hx hb dX4_restore_49 rfl (lv_at hl 1 rfl) ?_
        refine b_aald hx hb hev.1 hP 2 rfl rfl (j := k) (by omega) (by decide) (v := ks) hsk dX4_restore_50 ?_
        have hP : va_P G vwCl (((xoT xo h hp hh sl) ++ ((slT ca sl ka2 ua srf us) ++ ((hiT ca hh ka (nI (recN n)) (recR n rf)) ++ (stT ca kj bj S)))) ++ (((stT ca h a S) ++ (stT ca ks bs T2)) ++ (O ++ Z))) H := hP
        have hD : va_D A (((xoT xo h hp hh sl) ++ ((slT ca sl ka2 ua srf us) ++ ((hiT ca hh ka (nI (recN n)) (recR n rf)) ++ (stT ca kj bj S)))) ++ (((stT ca h a S) ++ (stT ca ks bs T2)) ++ (O ++ Z))) := hD
        refine goV (va_runV (As := [.ref ks]) (rest := []) ⟨hx, hb, hml, hown, hts⟩ (CtV.use (c_X3_copyFrom l G ca h a S ks bs T2) H.size) (cwV 1 hts gX4_restore_X3_copyFrom rfl rfl rfl (by decide +kernel) ⟨Nat.le_of_ble_eq_true rfl, Nat.le_of_ble_eq_true rfl⟩) (pcW_V hev (P_left (P_right hP)) (D_left (D_right hD)) (q0 := 0) rfl rfl rfl) rfl rfl hl.1 rfl (lv_room (Nat.le_of_ble_eq_true rfl)) dX4_restore_51 ⟨Nat.zero_le _, Nat.zero_le _⟩) hP hD hS hA (app_F stF stF) (fun H locs hP hD hS => ?_)
        have hP : va_P G vwCl ((xoT xo h hp hh sl) ++ ((slT ca sl ka2 ua srf us) ++ ((hiT ca hh ka (nI (recN n)) (recR n rf)) ++ ((stT ca kj bj S) ++ ((stT ca h a T2) ++ ((stT ca ks bs T2) ++ (O ++ Z))))))) H := hP
        have hD : va_D A ((xoT xo h hp hh sl) ++ ((slT ca sl ka2 ua srf us) ++ ((hiT ca hh ka (nI (recN n)) (recR n rf)) ++ ((stT ca kj bj S) ++ ((stT ca h a T2) ++ ((stT ca ks bs T2) ++ (O ++ Z))))))) := hD
        refine lv_aload_n hx hb dX4_restore_54 rfl (lv_at hl 0 rfl) ?_
        refine va_get (D := G) (ci := 4) (v := .ref h) (C := RX4) (T := TX4) (N := 4) hx hb hts in_wsX40 hown hev.1 hP 0 rfl rfl 0 (by decide) (hts (.fieldLink RX4 10 "PuddleMinistries" "street" "LPuddleMinistries$Street;") (List.mem_of_getElem? (i := 4) rfl)) (fun _ h9 => h9) rfl dX4_restore_55 ?_
        refine va_get (D := G) (ci := 3) (v := .int (s_dy T2)) (C := RX3) (T := TX3) (N := 15) hx hb hts in_wsX30 hown hev.1 hP 16 rfl rfl 11 (by decide) (hts (.fieldLink RX4 110 "PuddleMinistries$Street" "days" "I") (List.mem_of_getElem? (i := 6) rfl)) (fun _ h9 => h9) rfl dX4_restore_58 ?_
        exact hret _ _ _ _ hP hS dX4_restore_61
      · skip
        exact absurd c_3 hu
    · skip
      exact absurd (nI_lt (by omega) (by omega)) c_2
