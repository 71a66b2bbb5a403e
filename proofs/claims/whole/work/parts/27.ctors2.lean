set_option maxHeartbeats 4000000 in
set_option maxRecDepth 100000 in
theorem c_X0_init (l : Launch) (G : va_G) (ca : Nat → ClassId) (tF : Nat) (h : Nat) : CtC l yX0_init wsX0_init ({ frames := 2, cells := 61, slots := 912, locals := 33 }) [.ref h] G ca tF ([(h, .inr (0, [.null, .int 0]))]) (Nat × (Nat → Option Nat) × (Nat → Nat) × (Nat → Nat → Nat)) (fun u => ∀ i, i < 6 → u.2.1 i = some (u.2.2.1 i)) (fun u => hiT ca h u.1 (nI 0) u.2.1 ++ (stT ca (u.2.2.1 0) (u.2.2.2 0) S0c ++ (stT ca (u.2.2.1 1) (u.2.2.2 1) S0c ++ (stT ca (u.2.2.1 2) (u.2.2.2 2) S0c ++ (stT ca (u.2.2.1 3) (u.2.2.2 3) S0c ++ (stT ca (u.2.2.1 4) (u.2.2.2 4) S0c ++ (stT ca (u.2.2.1 5) (u.2.2.2 5) S0c))))))) 61 912 := by
  refine CtC.ofW (cc := cX0_init) (maxL := 2) (by decide) rfl (Nat.le_of_ble_eq_true rfl) ?_
  intro pr en s m be me c A ls Q H hx hb hml hts hown hev hP hD hA hS hl hin hX hret
  have hown : s.vm.findClass RX0 = some m.cls := hown
  have hl : lv_has ls 2 [(0, .ref h)] := hl
  have hP : va_P G vwCl [(h, .inr (0, [.null, .int 0]))] H := hP
  have hD : va_D A [(h, .inr (0, [.null, .int 0]))] := hD
  have in_wsX00 : ∀ w ∈ wsX00, w ∈ wsX0_init := fun _ h => List.mem_cons_of_mem _ (List.mem_append_left _ (List.mem_append_right _ h))
  have in_wsX30 : ∀ w ∈ wsX30, w ∈ wsX0_init := fun _ h => List.mem_cons_of_mem _ (List.mem_append_right _ h)
  refine lv_aload_n hx hb dX0_init_0 rfl (lv_at hl 0 rfl) ?_
  refine W.objInit hx hb hown (hts (.methodLink RX0 3 objectInit) (List.mem_of_getElem? (i := 1) rfl)) (hts (.instanceMethod objectInit) (List.mem_of_getElem? (i := 2) rfl)) (hts (.code objectInit ⟨#[0xb1]⟩ 1 none) (List.mem_of_getElem? (i := 3) rfl)) rfl (by rw [hml]; exact hl.1) rfl dX0_init_1 (Nat.le_of_ble_eq_true rfl) (Nat.le_of_ble_eq_true rfl) ?_
  refine W.eq (g2 := F0 m 4 ls []) rfl ?_
  refine lv_aload_n hx hb dX0_init_4 rfl (lv_at hl 0 rfl) ?_
  refine lv_bipush (v := nI 6) hx hb dX0_init_5 (by decide) ?_
  refine b_newq hx hb hown (hts (.classLink RX0 9 RX3) (List.mem_of_getElem? (i := 4) rfl)) hX.2.1 hev hP hD hS hA (N := 6) (by decide) (by decide) (by decide) (Nat.le_of_ble_eq_true rfl) (Nat.le_of_ble_eq_true rfl) dX0_init_7 (fun q1 H hP hD hS => ?_)
  have hP : va_P G vwCl ([(h, .inr (0, [.null, .int 0])), (q1, .inl (ca 3, 6, .inr (.inr (.inr (.inr (fun _ => none))))))]) H := hP
  have hD : va_D A ([(h, .inr (0, [.null, .int 0])), (q1, .inl (ca 3, 6, .inr (.inr (.inr (.inr (fun _ => none))))))]) := hD
  refine W.widen (k := 1) (n := 6) (by omega) (by omega) ?_
  refine va_putF (D := G) (ci := 0) (v := .ref q1) (ty := tyX0 0) (C := RX0) (T := TX0) (N := 2) hx hb hts in_wsX00 tyX0 tyX0_ok nmX0 hown hev.1 hP hD hS 0 rfl rfl 0 (by decide) (hts (.fieldLink RX0 11 "PuddleMinistries$History" "kept" "[LPuddleMinistries$Street;") (List.mem_of_getElem? (i := 5) rfl)) (fun _ h9 => h9) rfl hin rfl (by decide +kernel) rfl rfl (Nat.le_of_ble_eq_true rfl) dX0_init_10 (fun H locs hP hD hS => ?_)
  have hP : va_P G vwCl ([(h, .inr (0, [.ref q1, .int 0])), (q1, .inl (ca 3, 6, .inr (.inr (.inr (.inr (fun _ => none))))))]) H := hP
  have hD : va_D A ([(h, .inr (0, [.ref q1, .int 0])), (q1, .inl (ca 3, 6, .inr (.inr (.inr (.inr (fun _ => none))))))]) := hD
  refine lv_iconst (v := nI 0) hx hb dX0_init_13 (by decide) ?_
  refine lv_istore_n (lv' := [(1, .int (nI 0)), (0, .ref h)]) hx hb dX0_init_14 rfl hl (by decide) rfl (fun ls hl => ?_)
  refine lv_iload_n hx hb dX0_init_15 rfl (lv_at hl 0 rfl) ?_
  refine lv_bipush (v := nI 6) hx hb dX0_init_16 (by decide) ?_
  refine lv_icmp_ge (tgt := 40) hx hb dX0_init_18 (by decide) (fun c_1 => ?_) (fun c_1 => ?_)
  · skip
    exact absurd c_1 (nI_ge (by omega) (by omega))
  · skip
    refine lv_aload_n hx hb dX0_init_21 rfl (lv_at hl 1 rfl) ?_
    refine va_get (D := G) (ci := 0) (v := .ref q1) (C := RX0) (T := TX0) (N := 2) hx hb hts in_wsX00 hown hev.1 hP 0 rfl rfl 0 (by decide) (hts (.fieldLink RX0 11 "PuddleMinistries$History" "kept" "[LPuddleMinistries$Street;") (List.mem_of_getElem? (i := 5) rfl)) (fun _ h9 => h9) rfl dX0_init_22 ?_
    refine lv_iload_n hx hb dX0_init_25 rfl (lv_at hl 0 rfl) ?_
    refine va_new (ci := 3) (fs := [.null, .null, .null, .null, .null, .null, .null, .null, .null, .int 0, .int 0, .int 0, .int 0, .int 0, .int 0]) (C := RX3) (T := TX3) (N := 15) hx hb hts in_wsX30 tyX3 tyX3_ok hown (hts (.classLink RX0 9 RX3) (List.mem_of_getElem? (i := 4) rfl)) (hts (.instantiable RX3 15) (List.mem_of_getElem? (i := 6) rfl)) (hts (.initialized RX3) (List.mem_of_getElem? (i := 7) rfl)) hev.1 hP hD hS hA rfl (fun j hj => by rcases (show j = 0 ∨ j = 1 ∨ j = 2 ∨ j = 3 ∨ j = 4 ∨ j = 5 ∨ j = 6 ∨ j = 7 ∨ j = 8 ∨ j = 9 ∨ j = 10 ∨ j = 11 ∨ j = 12 ∨ j = 13 ∨ j = 14 by omega) with rfl | rfl | rfl | rfl | rfl | rfl | rfl | rfl | rfl | rfl | rfl | rfl | rfl | rfl | rfl <;> rfl) (Nat.le_of_ble_eq_true rfl) (Nat.le_of_ble_eq_true rfl) dX0_init_26 (fun o2 H hP hD hS => ?_)
    have hP : va_P G vwCl (([(h, .inr (0, [.ref q1, .int 0])), (q1, .inl (ca 3, 6, .inr (.inr (.inr (.inr (fun _ => none))))))]) ++ ([(o2, .inr (3, [.null, .null, .null, .null, .null, .null, .null, .null, .null, .int 0, .int 0, .int 0, .int 0, .int 0, .int 0]))])) H := hP
    have hD : va_D A (([(h, .inr (0, [.ref q1, .int 0])), (q1, .inl (ca 3, 6, .inr (.inr (.inr (.inr (fun _ => none))))))]) ++ ([(o2, .inr (3, [.null, .null, .null, .null, .null, .null, .null, .null, .null, .int 0, .int 0, .int 0, .int 0, .int 0, .int 0]))])) := hD
    refine W.widen (k := 2) (n := 21) (by omega) (by omega) ?_
    refine lv_dup hx hb dX0_init_29 rfl ?_
    have hP : va_P G vwCl (([(h, .inr (0, [.ref q1, .int 0])), (q1, .inl (ca 3, 6, .inr (.inr (.inr (.inr (fun _ => none))))))]) ++ (([(o2, .inr (3, [.null, .null, .null, .null, .null, .null, .null, .null, .null, .int 0, .int 0, .int 0, .int 0, .int 0, .int 0]))]) ++ [])) H := hP
    have hD : va_D A (([(h, .inr (0, [.ref q1, .int 0])), (q1, .inl (ca 3, 6, .inr (.inr (.inr (.inr (fun _ => none))))))]) ++ (([(o2, .inr (3, [.null, .null, .null, .null, .null, .null, .null, .null, .null, .int 0, .int 0, .int 0, .int 0, .int 0, .int 0]))]) ++ [])) := hD
    have hXc := SX.sub hX hev hS (A_mid hD hS hA)
    refine goC (va_runI (As := []) (rest := [.ref o2, .int (nI 0), .ref q1]) ⟨hx, hb, hml, hown, hts⟩ (c_X3_init l G ca tF o2 H.size) (cwI 0 hts gX0_init_X3_init rfl rfl rfl (hts (.initialized RX3) (List.mem_of_getElem? (i := 7) rfl)) (hts (.methodLink RX0 17 yX3_init) (List.mem_of_getElem? (i := 8) rfl)) (hts (.instanceMethod yX3_init) (List.mem_of_getElem? (i := 9) rfl)) rfl (by decide +kernel) ⟨Nat.le_of_ble_eq_true rfl, Nat.le_of_ble_eq_true rfl⟩) (pcX_S hev (P_left (P_right hP)) (D_left (D_right hD)) hXc) rfl rfl hl.1 rfl (lv_room (Nat.le_of_ble_eq_true rfl)) dX0_init_30 ⟨Nat.le_of_ble_eq_true rfl, Nat.le_of_ble_eq_true rfl⟩) hP hD hS hA (fun u3 huu3 H locs hP hD hS => ?_)
    have hP : va_P G vwCl (([(h, .inr (0, [.ref q1, .int 0])), (q1, .inl (ca 3, 6, .inr (.inr (.inr (.inr (fun _ => none))))))]) ++ (stT ca o2 u3 S0c)) H := hP
    have hD : va_D A (([(h, .inr (0, [.ref q1, .int 0])), (q1, .inl (ca 3, 6, .inr (.inr (.inr (.inr (fun _ => none))))))]) ++ (stT ca o2 u3 S0c)) := hD
    refine W.widen (k := 11) (n := 157) (by omega) (by omega) ?_
    refine b_aast hx hb hev.1 hP hD hS 1 (qk := 2) ⟨rfl, rfl⟩ rfl rfl (j := 0) (by decide) (by decide) dX0_init_33 (fun H locs hP hD hS => ?_)
    have hP : va_P G vwCl (([(h, .inr (0, [.ref q1, .int 0])), (q1, .inl (ca 3, 6, .inr (.inr (.inr (.inr (va_up (fun _ => none) 0 (some o2)))))))]) ++ (stT ca o2 u3 S0c)) H := hP
    have hD : va_D A (([(h, .inr (0, [.ref q1, .int 0])), (q1, .inl (ca 3, 6, .inr (.inr (.inr (.inr (va_up (fun _ => none) 0 (some o2)))))))]) ++ (stT ca o2 u3 S0c)) := hD
    refine lv_iinc (v := nI 1) (lv' := [(1, .int (nI 1)), (0, .ref h)]) hx hb dX0_init_34 hl (k := 0) rfl (nI_add 0 1) (by decide) rfl (fun ls hl => ?_)
    refine lv_goto (tgt := 15) hx hb dX0_init_37 (by decide) ?_
    refine lv_iload_n hx hb dX0_init_15 rfl (lv_at hl 0 rfl) ?_
    refine lv_bipush (v := nI 6) hx hb dX0_init_16 (by decide) ?_
    refine lv_icmp_ge (tgt := 40) hx hb dX0_init_18 (by decide) (fun c_2 => ?_) (fun c_2 => ?_)
    · skip
      exact absurd c_2 (nI_ge (by omega) (by omega))
    · skip
      refine lv_aload_n hx hb dX0_init_21 rfl (lv_at hl 1 rfl) ?_
      refine va_get (D := G) (ci := 0) (v := .ref q1) (C := RX0) (T := TX0) (N := 2) hx hb hts in_wsX00 hown hev.1 hP 0 rfl rfl 0 (by decide) (hts (.fieldLink RX0 11 "PuddleMinistries$History" "kept" "[LPuddleMinistries$Street;") (List.mem_of_getElem? (i := 5) rfl)) (fun _ h9 => h9) rfl dX0_init_22 ?_
      refine lv_iload_n hx hb dX0_init_25 rfl (lv_at hl 0 rfl) ?_
      refine va_new (ci := 3) (fs := [.null, .null, .null, .null, .null, .null, .null, .null, .null, .int 0, .int 0, .int 0, .int 0, .int 0, .int 0]) (C := RX3) (T := TX3) (N := 15) hx hb hts in_wsX30 tyX3 tyX3_ok hown (hts (.classLink RX0 9 RX3) (List.mem_of_getElem? (i := 4) rfl)) (hts (.instantiable RX3 15) (List.mem_of_getElem? (i := 6) rfl)) (hts (.initialized RX3) (List.mem_of_getElem? (i := 7) rfl)) hev.1 hP hD hS hA rfl (fun j hj => by rcases (show j = 0 ∨ j = 1 ∨ j = 2 ∨ j = 3 ∨ j = 4 ∨ j = 5 ∨ j = 6 ∨ j = 7 ∨ j = 8 ∨ j = 9 ∨ j = 10 ∨ j = 11 ∨ j = 12 ∨ j = 13 ∨ j = 14 by omega) with rfl | rfl | rfl | rfl | rfl | rfl | rfl | rfl | rfl | rfl | rfl | rfl | rfl | rfl | rfl <;> rfl) (Nat.le_of_ble_eq_true rfl) (Nat.le_of_ble_eq_true rfl) dX0_init_26 (fun o4 H hP hD hS => ?_)
      have hP : va_P G vwCl (([(h, .inr (0, [.ref q1, .int 0])), (q1, .inl (ca 3, 6, .inr (.inr (.inr (.inr (va_up (fun _ => none) 0 (some o2)))))))]) ++ ((stT ca o2 u3 S0c) ++ ([(o4, .inr (3, [.null, .null, .null, .null, .null, .null, .null, .null, .null, .int 0, .int 0, .int 0, .int 0, .int 0, .int 0]))]))) H := hP
      have hD : va_D A (([(h, .inr (0, [.ref q1, .int 0])), (q1, .inl (ca 3, 6, .inr (.inr (.inr (.inr (va_up (fun _ => none) 0 (some o2)))))))]) ++ ((stT ca o2 u3 S0c) ++ ([(o4, .inr (3, [.null, .null, .null, .null, .null, .null, .null, .null, .null, .int 0, .int 0, .int 0, .int 0, .int 0, .int 0]))]))) := hD
      refine W.widen (k := 12) (n := 172) (by omega) (by omega) ?_
      refine lv_dup hx hb dX0_init_29 rfl ?_
      have hP : va_P G vwCl ((([(h, .inr (0, [.ref q1, .int 0])), (q1, .inl (ca 3, 6, .inr (.inr (.inr (.inr (va_up (fun _ => none) 0 (some o2)))))))]) ++ (stT ca o2 u3 S0c)) ++ (([(o4, .inr (3, [.null, .null, .null, .null, .null, .null, .null, .null, .null, .int 0, .int 0, .int 0, .int 0, .int 0, .int 0]))]) ++ [])) H := hP
      have hD : va_D A ((([(h, .inr (0, [.ref q1, .int 0])), (q1, .inl (ca 3, 6, .inr (.inr (.inr (.inr (va_up (fun _ => none) 0 (some o2)))))))]) ++ (stT ca o2 u3 S0c)) ++ (([(o4, .inr (3, [.null, .null, .null, .null, .null, .null, .null, .null, .null, .int 0, .int 0, .int 0, .int 0, .int 0, .int 0]))]) ++ [])) := hD
      have hXc := SX.sub hX hev hS (A_mid hD hS hA)
      refine goC (va_runI (As := []) (rest := [.ref o4, .int (nI 1), .ref q1]) ⟨hx, hb, hml, hown, hts⟩ (c_X3_init l G ca tF o4 H.size) (cwI 0 hts gX0_init_X3_init rfl rfl rfl (hts (.initialized RX3) (List.mem_of_getElem? (i := 7) rfl)) (hts (.methodLink RX0 17 yX3_init) (List.mem_of_getElem? (i := 8) rfl)) (hts (.instanceMethod yX3_init) (List.mem_of_getElem? (i := 9) rfl)) rfl (by decide +kernel) ⟨Nat.le_of_ble_eq_true rfl, Nat.le_of_ble_eq_true rfl⟩) (pcX_S hev (P_left (P_right hP)) (D_left (D_right hD)) hXc) rfl rfl hl.1 rfl (lv_room (Nat.le_of_ble_eq_true rfl)) dX0_init_30 ⟨Nat.le_of_ble_eq_true rfl, Nat.le_of_ble_eq_true rfl⟩) hP hD hS hA (fun u5 huu5 H locs hP hD hS => ?_)
      have hP : va_P G vwCl (([(h, .inr (0, [.ref q1, .int 0])), (q1, .inl (ca 3, 6, .inr (.inr (.inr (.inr (va_up (fun _ => none) 0 (some o2)))))))]) ++ ((stT ca o2 u3 S0c) ++ (stT ca o4 u5 S0c))) H := hP
      have hD : va_D A (([(h, .inr (0, [.ref q1, .int 0])), (q1, .inl (ca 3, 6, .inr (.inr (.inr (.inr (va_up (fun _ => none) 0 (some o2)))))))]) ++ ((stT ca o2 u3 S0c) ++ (stT ca o4 u5 S0c))) := hD
      refine W.widen (k := 21) (n := 308) (by omega) (by omega) ?_
      refine b_aast hx hb hev.1 hP hD hS 1 (qk := 12) ⟨rfl, rfl⟩ rfl rfl (j := 1) (by decide) (by decide) dX0_init_33 (fun H locs hP hD hS => ?_)
      have hP : va_P G vwCl (([(h, .inr (0, [.ref q1, .int 0])), (q1, .inl (ca 3, 6, .inr (.inr (.inr (.inr (va_up (va_up (fun _ => none) 0 (some o2)) 1 (some o4)))))))]) ++ ((stT ca o2 u3 S0c) ++ (stT ca o4 u5 S0c))) H := hP
      have hD : va_D A (([(h, .inr (0, [.ref q1, .int 0])), (q1, .inl (ca 3, 6, .inr (.inr (.inr (.inr (va_up (va_up (fun _ => none) 0 (some o2)) 1 (some o4)))))))]) ++ ((stT ca o2 u3 S0c) ++ (stT ca o4 u5 S0c))) := hD
      refine lv_iinc (v := nI 2) (lv' := [(1, .int (nI 2)), (0, .ref h)]) hx hb dX0_init_34 hl (k := 0) rfl (nI_add 1 1) (by decide) rfl (fun ls hl => ?_)
      refine lv_goto (tgt := 15) hx hb dX0_init_37 (by decide) ?_
      refine lv_iload_n hx hb dX0_init_15 rfl (lv_at hl 0 rfl) ?_
      refine lv_bipush (v := nI 6) hx hb dX0_init_16 (by decide) ?_
      refine lv_icmp_ge (tgt := 40) hx hb dX0_init_18 (by decide) (fun c_3 => ?_) (fun c_3 => ?_)
      · skip
        exact absurd c_3 (nI_ge (by omega) (by omega))
      · skip
        refine lv_aload_n hx hb dX0_init_21 rfl (lv_at hl 1 rfl) ?_
        refine va_get (D := G) (ci := 0) (v := .ref q1) (C := RX0) (T := TX0) (N := 2) hx hb hts in_wsX00 hown hev.1 hP 0 rfl rfl 0 (by decide) (hts (.fieldLink RX0 11 "PuddleMinistries$History" "kept" "[LPuddleMinistries$Street;") (List.mem_of_getElem? (i := 5) rfl)) (fun _ h9 => h9) rfl dX0_init_22 ?_
        refine lv_iload_n hx hb dX0_init_25 rfl (lv_at hl 0 rfl) ?_
        refine va_new (ci := 3) (fs := [.null, .null, .null, .null, .null, .null, .null, .null, .null, .int 0, .int 0, .int 0, .int 0, .int 0, .int 0]) (C := RX3) (T := TX3) (N := 15) hx hb hts in_wsX30 tyX3 tyX3_ok hown (hts (.classLink RX0 9 RX3) (List.mem_of_getElem? (i := 4) rfl)) (hts (.instantiable RX3 15) (List.mem_of_getElem? (i := 6) rfl)) (hts (.initialized RX3) (List.mem_of_getElem? (i := 7) rfl)) hev.1 hP hD hS hA rfl (fun j hj => by rcases (show j = 0 ∨ j = 1 ∨ j = 2 ∨ j = 3 ∨ j = 4 ∨ j = 5 ∨ j = 6 ∨ j = 7 ∨ j = 8 ∨ j = 9 ∨ j = 10 ∨ j = 11 ∨ j = 12 ∨ j = 13 ∨ j = 14 by omega) with rfl | rfl | rfl | rfl | rfl | rfl | rfl | rfl | rfl | rfl | rfl | rfl | rfl | rfl | rfl <;> rfl) (Nat.le_of_ble_eq_true rfl) (Nat.le_of_ble_eq_true rfl) dX0_init_26 (fun o6 H hP hD hS => ?_)
        have hP : va_P G vwCl (([(h, .inr (0, [.ref q1, .int 0])), (q1, .inl (ca 3, 6, .inr (.inr (.inr (.inr (va_up (va_up (fun _ => none) 0 (some o2)) 1 (some o4)))))))]) ++ ((stT ca o2 u3 S0c) ++ ((stT ca o4 u5 S0c) ++ ([(o6, .inr (3, [.null, .null, .null, .null, .null, .null, .null, .null, .null, .int 0, .int 0, .int 0, .int 0, .int 0, .int 0]))])))) H := hP
        have hD : va_D A (([(h, .inr (0, [.ref q1, .int 0])), (q1, .inl (ca 3, 6, .inr (.inr (.inr (.inr (va_up (va_up (fun _ => none) 0 (some o2)) 1 (some o4)))))))]) ++ ((stT ca o2 u3 S0c) ++ ((stT ca o4 u5 S0c) ++ ([(o6, .inr (3, [.null, .null, .null, .null, .null, .null, .null, .null, .null, .int 0, .int 0, .int 0, .int 0, .int 0, .int 0]))])))) := hD
        refine W.widen (k := 22) (n := 323) (by omega) (by omega) ?_
        refine lv_dup hx hb dX0_init_29 rfl ?_
        have hP : va_P G vwCl ((([(h, .inr (0, [.ref q1, .int 0])), (q1, .inl (ca 3, 6, .inr (.inr (.inr (.inr (va_up (va_up (fun _ => none) 0 (some o2)) 1 (some o4)))))))]) ++ ((stT ca o2 u3 S0c) ++ (stT ca o4 u5 S0c))) ++ (([(o6, .inr (3, [.null, .null, .null, .null, .null, .null, .null, .null, .null, .int 0, .int 0, .int 0, .int 0, .int 0, .int 0]))]) ++ [])) H := hP
        have hD : va_D A ((([(h, .inr (0, [.ref q1, .int 0])), (q1, .inl (ca 3, 6, .inr (.inr (.inr (.inr (va_up (va_up (fun _ => none) 0 (some o2)) 1 (some o4)))))))]) ++ ((stT ca o2 u3 S0c) ++ (stT ca o4 u5 S0c))) ++ (([(o6, .inr (3, [.null, .null, .null, .null, .null, .null, .null, .null, .null, .int 0, .int 0, .int 0, .int 0, .int 0, .int 0]))]) ++ [])) := hD
        have hXc := SX.sub hX hev hS (A_mid hD hS hA)
        refine goC (va_runI (As := []) (rest := [.ref o6, .int (nI 2), .ref q1]) ⟨hx, hb, hml, hown, hts⟩ (c_X3_init l G ca tF o6 H.size) (cwI 0 hts gX0_init_X3_init rfl rfl rfl (hts (.initialized RX3) (List.mem_of_getElem? (i := 7) rfl)) (hts (.methodLink RX0 17 yX3_init) (List.mem_of_getElem? (i := 8) rfl)) (hts (.instanceMethod yX3_init) (List.mem_of_getElem? (i := 9) rfl)) rfl (by decide +kernel) ⟨Nat.le_of_ble_eq_true rfl, Nat.le_of_ble_eq_true rfl⟩) (pcX_S hev (P_left (P_right hP)) (D_left (D_right hD)) hXc) rfl rfl hl.1 rfl (lv_room (Nat.le_of_ble_eq_true rfl)) dX0_init_30 ⟨Nat.le_of_ble_eq_true rfl, Nat.le_of_ble_eq_true rfl⟩) hP hD hS hA (fun u7 huu7 H locs hP hD hS => ?_)
        have hP : va_P G vwCl (([(h, .inr (0, [.ref q1, .int 0])), (q1, .inl (ca 3, 6, .inr (.inr (.inr (.inr (va_up (va_up (fun _ => none) 0 (some o2)) 1 (some o4)))))))]) ++ ((stT ca o2 u3 S0c) ++ ((stT ca o4 u5 S0c) ++ (stT ca o6 u7 S0c)))) H := hP
        have hD : va_D A (([(h, .inr (0, [.ref q1, .int 0])), (q1, .inl (ca 3, 6, .inr (.inr (.inr (.inr (va_up (va_up (fun _ => none) 0 (some o2)) 1 (some o4)))))))]) ++ ((stT ca o2 u3 S0c) ++ ((stT ca o4 u5 S0c) ++ (stT ca o6 u7 S0c)))) := hD
        refine W.widen (k := 31) (n := 459) (by omega) (by omega) ?_
        refine b_aast hx hb hev.1 hP hD hS 1 (qk := 22) ⟨rfl, rfl⟩ rfl rfl (j := 2) (by decide) (by decide) dX0_init_33 (fun H locs hP hD hS => ?_)
        have hP : va_P G vwCl (([(h, .inr (0, [.ref q1, .int 0])), (q1, .inl (ca 3, 6, .inr (.inr (.inr (.inr (va_up (va_up (va_up (fun _ => none) 0 (some o2)) 1 (some o4)) 2 (some o6)))))))]) ++ ((stT ca o2 u3 S0c) ++ ((stT ca o4 u5 S0c) ++ (stT ca o6 u7 S0c)))) H := hP
        have hD : va_D A (([(h, .inr (0, [.ref q1, .int 0])), (q1, .inl (ca 3, 6, .inr (.inr (.inr (.inr (va_up (va_up (va_up (fun _ => none) 0 (some o2)) 1 (some o4)) 2 (some o6)))))))]) ++ ((stT ca o2 u3 S0c) ++ ((stT ca o4 u5 S0c) ++ (stT ca o6 u7 S0c)))) := hD
        refine lv_iinc (v := nI 3) (lv' := [(1, .int (nI 3)), (0, .ref h)]) hx hb dX0_init_34 hl (k := 0) rfl (nI_add 2 1) (by decide) rfl (fun ls hl => ?_)
        refine lv_goto (tgt := 15) hx hb dX0_init_37 (by decide) ?_
        refine lv_iload_n hx hb dX0_init_15 rfl (lv_at hl 0 rfl) ?_
        refine lv_bipush (v := nI 6) hx hb dX0_init_16 (by decide) ?_
        refine lv_icmp_ge (tgt := 40) hx hb dX0_init_18 (by decide) (fun c_4 => ?_) (fun c_4 => ?_)
        · skip
          exact absurd c_4 (nI_ge (by omega) (by omega))
        · skip
          refine lv_aload_n hx hb dX0_init_21 rfl (lv_at hl 1 rfl) ?_
          refine va_get (D := G) (ci := 0) (v := .ref q1) (C := RX0) (T := TX0) (N := 2) hx hb hts in_wsX00 hown hev.1 hP 0 rfl rfl 0 (by decide) (hts (.fieldLink RX0 11 "PuddleMinistries$History" "kept" "[LPuddleMinistries$Street;") (List.mem_of_getElem? (i := 5) rfl)) (fun _ h9 => h9) rfl dX0_init_22 ?_
          refine lv_iload_n hx hb dX0_init_25 rfl (lv_at hl 0 rfl) ?_
          refine va_new (ci := 3) (fs := [.null, .null, .null, .null, .null, .null, .null, .null, .null, .int 0, .int 0, .int 0, .int 0, .int 0, .int 0]) (C := RX3) (T := TX3) (N := 15) hx hb hts in_wsX30 tyX3 tyX3_ok hown (hts (.classLink RX0 9 RX3) (List.mem_of_getElem? (i := 4) rfl)) (hts (.instantiable RX3 15) (List.mem_of_getElem? (i := 6) rfl)) (hts (.initialized RX3) (List.mem_of_getElem? (i := 7) rfl)) hev.1 hP hD hS hA rfl (fun j hj => by rcases (show j = 0 ∨ j = 1 ∨ j = 2 ∨ j = 3 ∨ j = 4 ∨ j = 5 ∨ j = 6 ∨ j = 7 ∨ j = 8 ∨ j = 9 ∨ j = 10 ∨ j = 11 ∨ j = 12 ∨ j = 13 ∨ j = 14 by omega) with rfl | rfl | rfl | rfl | rfl | rfl | rfl | rfl | rfl | rfl | rfl | rfl | rfl | rfl | rfl <;> rfl) (Nat.le_of_ble_eq_true rfl) (Nat.le_of_ble_eq_true rfl) dX0_init_26 (fun o8 H hP hD hS => ?_)
          have hP : va_P G vwCl (([(h, .inr (0, [.ref q1, .int 0])), (q1, .inl (ca 3, 6, .inr (.inr (.inr (.inr (va_up (va_up (va_up (fun _ => none) 0 (some o2)) 1 (some o4)) 2 (some o6)))))))]) ++ ((stT ca o2 u3 S0c) ++ ((stT ca o4 u5 S0c) ++ ((stT ca o6 u7 S0c) ++ ([(o8, .inr (3, [.null, .null, .null, .null, .null, .null, .null, .null, .null, .int 0, .int 0, .int 0, .int 0, .int 0, .int 0]))]))))) H := hP
          have hD : va_D A (([(h, .inr (0, [.ref q1, .int 0])), (q1, .inl (ca 3, 6, .inr (.inr (.inr (.inr (va_up (va_up (va_up (fun _ => none) 0 (some o2)) 1 (some o4)) 2 (some o6)))))))]) ++ ((stT ca o2 u3 S0c) ++ ((stT ca o4 u5 S0c) ++ ((stT ca o6 u7 S0c) ++ ([(o8, .inr (3, [.null, .null, .null, .null, .null, .null, .null, .null, .null, .int 0, .int 0, .int 0, .int 0, .int 0, .int 0]))]))))) := hD
          refine W.widen (k := 32) (n := 474) (by omega) (by omega) ?_
          refine lv_dup hx hb dX0_init_29 rfl ?_
          have hP : va_P G vwCl ((([(h, .inr (0, [.ref q1, .int 0])), (q1, .inl (ca 3, 6, .inr (.inr (.inr (.inr (va_up (va_up (va_up (fun _ => none) 0 (some o2)) 1 (some o4)) 2 (some o6)))))))]) ++ ((stT ca o2 u3 S0c) ++ ((stT ca o4 u5 S0c) ++ (stT ca o6 u7 S0c)))) ++ (([(o8, .inr (3, [.null, .null, .null, .null, .null, .null, .null, .null, .null, .int 0, .int 0, .int 0, .int 0, .int 0, .int 0]))]) ++ [])) H := hP
          have hD : va_D A ((([(h, .inr (0, [.ref q1, .int 0])), (q1, .inl (ca 3, 6, .inr (.inr (.inr (.inr (va_up (va_up (va_up (fun _ => none) 0 (some o2)) 1 (some o4)) 2 (some o6)))))))]) ++ ((stT ca o2 u3 S0c) ++ ((stT ca o4 u5 S0c) ++ (stT ca o6 u7 S0c)))) ++ (([(o8, .inr (3, [.null, .null, .null, .null, .null, .null, .null, .null, .null, .int 0, .int 0, .int 0, .int 0, .int 0, .int 0]))]) ++ [])) := hD
          have hXc := SX.sub hX hev hS (A_mid hD hS hA)
          refine goC (va_runI (As := []) (rest := [.ref o8, .int (nI 3), .ref q1]) ⟨hx, hb, hml, hown, hts⟩ (c_X3_init l G ca tF o8 H.size) (cwI 0 hts gX0_init_X3_init rfl rfl rfl (hts (.initialized RX3) (List.mem_of_getElem? (i := 7) rfl)) (hts (.methodLink RX0 17 yX3_init) (List.mem_of_getElem? (i := 8) rfl)) (hts (.instanceMethod yX3_init) (List.mem_of_getElem? (i := 9) rfl)) rfl (by decide +kernel) ⟨Nat.le_of_ble_eq_true rfl, Nat.le_of_ble_eq_true rfl⟩) (pcX_S hev (P_left (P_right hP)) (D_left (D_right hD)) hXc) rfl rfl hl.1 rfl (lv_room (Nat.le_of_ble_eq_true rfl)) dX0_init_30 ⟨Nat.le_of_ble_eq_true rfl, Nat.le_of_ble_eq_true rfl⟩) hP hD hS hA (fun u9 huu9 H locs hP hD hS => ?_)
          have hP : va_P G vwCl (([(h, .inr (0, [.ref q1, .int 0])), (q1, .inl (ca 3, 6, .inr (.inr (.inr (.inr (va_up (va_up (va_up (fun _ => none) 0 (some o2)) 1 (some o4)) 2 (some o6)))))))]) ++ ((stT ca o2 u3 S0c) ++ ((stT ca o4 u5 S0c) ++ ((stT ca o6 u7 S0c) ++ (stT ca o8 u9 S0c))))) H := hP
          have hD : va_D A (([(h, .inr (0, [.ref q1, .int 0])), (q1, .inl (ca 3, 6, .inr (.inr (.inr (.inr (va_up (va_up (va_up (fun _ => none) 0 (some o2)) 1 (some o4)) 2 (some o6)))))))]) ++ ((stT ca o2 u3 S0c) ++ ((stT ca o4 u5 S0c) ++ ((stT ca o6 u7 S0c) ++ (stT ca o8 u9 S0c))))) := hD
          refine W.widen (k := 41) (n := 610) (by omega) (by omega) ?_
          refine b_aast hx hb hev.1 hP hD hS 1 (qk := 32) ⟨rfl, rfl⟩ rfl rfl (j := 3) (by decide) (by decide) dX0_init_33 (fun H locs hP hD hS => ?_)
          have hP : va_P G vwCl (([(h, .inr (0, [.ref q1, .int 0])), (q1, .inl (ca 3, 6, .inr (.inr (.inr (.inr (va_up (va_up (va_up (va_up (fun _ => none) 0 (some o2)) 1 (some o4)) 2 (some o6)) 3 (some o8)))))))]) ++ ((stT ca o2 u3 S0c) ++ ((stT ca o4 u5 S0c) ++ ((stT ca o6 u7 S0c) ++ (stT ca o8 u9 S0c))))) H := hP
          have hD : va_D A (([(h, .inr (0, [.ref q1, .int 0])), (q1, .inl (ca 3, 6, .inr (.inr (.inr (.inr (va_up (va_up (va_up (va_up (fun _ => none) 0 (some o2)) 1 (some o4)) 2 (some o6)) 3 (some o8)))))))]) ++ ((stT ca o2 u3 S0c) ++ ((stT ca o4 u5 S0c) ++ ((stT ca o6 u7 S0c) ++ (stT ca o8 u9 S0c))))) := hD
          refine lv_iinc (v := nI 4) (lv' := [(1, .int (nI 4)), (0, .ref h)]) hx hb dX0_init_34 hl (k := 0) rfl (nI_add 3 1) (by decide) rfl (fun ls hl => ?_)
          refine lv_goto (tgt := 15) hx hb dX0_init_37 (by decide) ?_
          refine lv_iload_n hx hb dX0_init_15 rfl (lv_at hl 0 rfl) ?_
          refine lv_bipush (v := nI 6) hx hb dX0_init_16 (by decide) ?_
          refine lv_icmp_ge (tgt := 40) hx hb dX0_init_18 (by decide) (fun c_5 => ?_) (fun c_5 => ?_)
          · skip
            exact absurd c_5 (nI_ge (by omega) (by omega))
          · skip
            refine lv_aload_n hx hb dX0_init_21 rfl (lv_at hl 1 rfl) ?_
            refine va_get (D := G) (ci := 0) (v := .ref q1) (C := RX0) (T := TX0) (N := 2) hx hb hts in_wsX00 hown hev.1 hP 0 rfl rfl 0 (by decide) (hts (.fieldLink RX0 11 "PuddleMinistries$History" "kept" "[LPuddleMinistries$Street;") (List.mem_of_getElem? (i := 5) rfl)) (fun _ h9 => h9) rfl dX0_init_22 ?_
            refine lv_iload_n hx hb dX0_init_25 rfl (lv_at hl 0 rfl) ?_
            refine va_new (ci := 3) (fs := [.null, .null, .null, .null, .null, .null, .null, .null, .null, .int 0, .int 0, .int 0, .int 0, .int 0, .int 0]) (C := RX3) (T := TX3) (N := 15) hx hb hts in_wsX30 tyX3 tyX3_ok hown (hts (.classLink RX0 9 RX3) (List.mem_of_getElem? (i := 4) rfl)) (hts (.instantiable RX3 15) (List.mem_of_getElem? (i := 6) rfl)) (hts (.initialized RX3) (List.mem_of_getElem? (i := 7) rfl)) hev.1 hP hD hS hA rfl (fun j hj => by rcases (show j = 0 ∨ j = 1 ∨ j = 2 ∨ j = 3 ∨ j = 4 ∨ j = 5 ∨ j = 6 ∨ j = 7 ∨ j = 8 ∨ j = 9 ∨ j = 10 ∨ j = 11 ∨ j = 12 ∨ j = 13 ∨ j = 14 by omega) with rfl | rfl | rfl | rfl | rfl | rfl | rfl | rfl | rfl | rfl | rfl | rfl | rfl | rfl | rfl <;> rfl) (Nat.le_of_ble_eq_true rfl) (Nat.le_of_ble_eq_true rfl) dX0_init_26 (fun o10 H hP hD hS => ?_)
            have hP : va_P G vwCl (([(h, .inr (0, [.ref q1, .int 0])), (q1, .inl (ca 3, 6, .inr (.inr (.inr (.inr (va_up (va_up (va_up (va_up (fun _ => none) 0 (some o2)) 1 (some o4)) 2 (some o6)) 3 (some o8)))))))]) ++ ((stT ca o2 u3 S0c) ++ ((stT ca o4 u5 S0c) ++ ((stT ca o6 u7 S0c) ++ ((stT ca o8 u9 S0c) ++ ([(o10, .inr (3, [.null, .null, .null, .null, .null, .null, .null, .null, .null, .int 0, .int 0, .int 0, .int 0, .int 0, .int 0]))])))))) H := hP
            have hD : va_D A (([(h, .inr (0, [.ref q1, .int 0])), (q1, .inl (ca 3, 6, .inr (.inr (.inr (.inr (va_up (va_up (va_up (va_up (fun _ => none) 0 (some o2)) 1 (some o4)) 2 (some o6)) 3 (some o8)))))))]) ++ ((stT ca o2 u3 S0c) ++ ((stT ca o4 u5 S0c) ++ ((stT ca o6 u7 S0c) ++ ((stT ca o8 u9 S0c) ++ ([(o10, .inr (3, [.null, .null, .null, .null, .null, .null, .null, .null, .null, .int 0, .int 0, .int 0, .int 0, .int 0, .int 0]))])))))) := hD
            refine W.widen (k := 42) (n := 625) (by omega) (by omega) ?_
            refine lv_dup hx hb dX0_init_29 rfl ?_
            have hP : va_P G vwCl ((([(h, .inr (0, [.ref q1, .int 0])), (q1, .inl (ca 3, 6, .inr (.inr (.inr (.inr (va_up (va_up (va_up (va_up (fun _ => none) 0 (some o2)) 1 (some o4)) 2 (some o6)) 3 (some o8)))))))]) ++ ((stT ca o2 u3 S0c) ++ ((stT ca o4 u5 S0c) ++ ((stT ca o6 u7 S0c) ++ (stT ca o8 u9 S0c))))) ++ (([(o10, .inr (3, [.null, .null, .null, .null, .null, .null, .null, .null, .null, .int 0, .int 0, .int 0, .int 0, .int 0, .int 0]))]) ++ [])) H := hP
            have hD : va_D A ((([(h, .inr (0, [.ref q1, .int 0])), (q1, .inl (ca 3, 6, .inr (.inr (.inr (.inr (va_up (va_up (va_up (va_up (fun _ => none) 0 (some o2)) 1 (some o4)) 2 (some o6)) 3 (some o8)))))))]) ++ ((stT ca o2 u3 S0c) ++ ((stT ca o4 u5 S0c) ++ ((stT ca o6 u7 S0c) ++ (stT ca o8 u9 S0c))))) ++ (([(o10, .inr (3, [.null, .null, .null, .null, .null, .null, .null, .null, .null, .int 0, .int 0, .int 0, .int 0, .int 0, .int 0]))]) ++ [])) := hD
            have hXc := SX.sub hX hev hS (A_mid hD hS hA)
            refine goC (va_runI (As := []) (rest := [.ref o10, .int (nI 4), .ref q1]) ⟨hx, hb, hml, hown, hts⟩ (c_X3_init l G ca tF o10 H.size) (cwI 0 hts gX0_init_X3_init rfl rfl rfl (hts (.initialized RX3) (List.mem_of_getElem? (i := 7) rfl)) (hts (.methodLink RX0 17 yX3_init) (List.mem_of_getElem? (i := 8) rfl)) (hts (.instanceMethod yX3_init) (List.mem_of_getElem? (i := 9) rfl)) rfl (by decide +kernel) ⟨Nat.le_of_ble_eq_true rfl, Nat.le_of_ble_eq_true rfl⟩) (pcX_S hev (P_left (P_right hP)) (D_left (D_right hD)) hXc) rfl rfl hl.1 rfl (lv_room (Nat.le_of_ble_eq_true rfl)) dX0_init_30 ⟨Nat.le_of_ble_eq_true rfl, Nat.le_of_ble_eq_true rfl⟩) hP hD hS hA (fun u11 huu11 H locs hP hD hS => ?_)
            have hP : va_P G vwCl (([(h, .inr (0, [.ref q1, .int 0])), (q1, .inl (ca 3, 6, .inr (.inr (.inr (.inr (va_up (va_up (va_up (va_up (fun _ => none) 0 (some o2)) 1 (some o4)) 2 (some o6)) 3 (some o8)))))))]) ++ ((stT ca o2 u3 S0c) ++ ((stT ca o4 u5 S0c) ++ ((stT ca o6 u7 S0c) ++ ((stT ca o8 u9 S0c) ++ (stT ca o10 u11 S0c)))))) H := hP
            have hD : va_D A (([(h, .inr (0, [.ref q1, .int 0])), (q1, .inl (ca 3, 6, .inr (.inr (.inr (.inr (va_up (va_up (va_up (va_up (fun _ => none) 0 (some o2)) 1 (some o4)) 2 (some o6)) 3 (some o8)))))))]) ++ ((stT ca o2 u3 S0c) ++ ((stT ca o4 u5 S0c) ++ ((stT ca o6 u7 S0c) ++ ((stT ca o8 u9 S0c) ++ (stT ca o10 u11 S0c)))))) := hD
            refine W.widen (k := 51) (n := 761) (by omega) (by omega) ?_
            refine b_aast hx hb hev.1 hP hD hS 1 (qk := 42) ⟨rfl, rfl⟩ rfl rfl (j := 4) (by decide) (by decide) dX0_init_33 (fun H locs hP hD hS => ?_)
            have hP : va_P G vwCl (([(h, .inr (0, [.ref q1, .int 0])), (q1, .inl (ca 3, 6, .inr (.inr (.inr (.inr (va_up (va_up (va_up (va_up (va_up (fun _ => none) 0 (some o2)) 1 (some o4)) 2 (some o6)) 3 (some o8)) 4 (some o10)))))))]) ++ ((stT ca o2 u3 S0c) ++ ((stT ca o4 u5 S0c) ++ ((stT ca o6 u7 S0c) ++ ((stT ca o8 u9 S0c) ++ (stT ca o10 u11 S0c)))))) H := hP
            have hD : va_D A (([(h, .inr (0, [.ref q1, .int 0])), (q1, .inl (ca 3, 6, .inr (.inr (.inr (.inr (va_up (va_up (va_up (va_up (va_up (fun _ => none) 0 (some o2)) 1 (some o4)) 2 (some o6)) 3 (some o8)) 4 (some o10)))))))]) ++ ((stT ca o2 u3 S0c) ++ ((stT ca o4 u5 S0c) ++ ((stT ca o6 u7 S0c) ++ ((stT ca o8 u9 S0c) ++ (stT ca o10 u11 S0c)))))) := hD
            refine lv_iinc (v := nI 5) (lv' := [(1, .int (nI 5)), (0, .ref h)]) hx hb dX0_init_34 hl (k := 0) rfl (nI_add 4 1) (by decide) rfl (fun ls hl => ?_)
            refine lv_goto (tgt := 15) hx hb dX0_init_37 (by decide) ?_
            refine lv_iload_n hx hb dX0_init_15 rfl (lv_at hl 0 rfl) ?_
            refine lv_bipush (v := nI 6) hx hb dX0_init_16 (by decide) ?_
            refine lv_icmp_ge (tgt := 40) hx hb dX0_init_18 (by decide) (fun c_6 => ?_) (fun c_6 => ?_)
            · skip
              exact absurd c_6 (nI_ge (by omega) (by omega))
            · skip
              refine lv_aload_n hx hb dX0_init_21 rfl (lv_at hl 1 rfl) ?_
              refine va_get (D := G) (ci := 0) (v := .ref q1) (C := RX0) (T := TX0) (N := 2) hx hb hts in_wsX00 hown hev.1 hP 0 rfl rfl 0 (by decide) (hts (.fieldLink RX0 11 "PuddleMinistries$History" "kept" "[LPuddleMinistries$Street;") (List.mem_of_getElem? (i := 5) rfl)) (fun _ h9 => h9) rfl dX0_init_22 ?_
              refine lv_iload_n hx hb dX0_init_25 rfl (lv_at hl 0 rfl) ?_
              refine va_new (ci := 3) (fs := [.null, .null, .null, .null, .null, .null, .null, .null, .null, .int 0, .int 0, .int 0, .int 0, .int 0, .int 0]) (C := RX3) (T := TX3) (N := 15) hx hb hts in_wsX30 tyX3 tyX3_ok hown (hts (.classLink RX0 9 RX3) (List.mem_of_getElem? (i := 4) rfl)) (hts (.instantiable RX3 15) (List.mem_of_getElem? (i := 6) rfl)) (hts (.initialized RX3) (List.mem_of_getElem? (i := 7) rfl)) hev.1 hP hD hS hA rfl (fun j hj => by rcases (show j = 0 ∨ j = 1 ∨ j = 2 ∨ j = 3 ∨ j = 4 ∨ j = 5 ∨ j = 6 ∨ j = 7 ∨ j = 8 ∨ j = 9 ∨ j = 10 ∨ j = 11 ∨ j = 12 ∨ j = 13 ∨ j = 14 by omega) with rfl | rfl | rfl | rfl | rfl | rfl | rfl | rfl | rfl | rfl | rfl | rfl | rfl | rfl | rfl <;> rfl) (Nat.le_of_ble_eq_true rfl) (Nat.le_of_ble_eq_true rfl) dX0_init_26 (fun o12 H hP hD hS => ?_)
              have hP : va_P G vwCl (([(h, .inr (0, [.ref q1, .int 0])), (q1, .inl (ca 3, 6, .inr (.inr (.inr (.inr (va_up (va_up (va_up (va_up (va_up (fun _ => none) 0 (some o2)) 1 (some o4)) 2 (some o6)) 3 (some o8)) 4 (some o10)))))))]) ++ ((stT ca o2 u3 S0c) ++ ((stT ca o4 u5 S0c) ++ ((stT ca o6 u7 S0c) ++ ((stT ca o8 u9 S0c) ++ ((stT ca o10 u11 S0c) ++ ([(o12, .inr (3, [.null, .null, .null, .null, .null, .null, .null, .null, .null, .int 0, .int 0, .int 0, .int 0, .int 0, .int 0]))]))))))) H := hP
              have hD : va_D A (([(h, .inr (0, [.ref q1, .int 0])), (q1, .inl (ca 3, 6, .inr (.inr (.inr (.inr (va_up (va_up (va_up (va_up (va_up (fun _ => none) 0 (some o2)) 1 (some o4)) 2 (some o6)) 3 (some o8)) 4 (some o10)))))))]) ++ ((stT ca o2 u3 S0c) ++ ((stT ca o4 u5 S0c) ++ ((stT ca o6 u7 S0c) ++ ((stT ca o8 u9 S0c) ++ ((stT ca o10 u11 S0c) ++ ([(o12, .inr (3, [.null, .null, .null, .null, .null, .null, .null, .null, .null, .int 0, .int 0, .int 0, .int 0, .int 0, .int 0]))]))))))) := hD
              refine W.widen (k := 52) (n := 776) (by omega) (by omega) ?_
              refine lv_dup hx hb dX0_init_29 rfl ?_
              have hP : va_P G vwCl ((([(h, .inr (0, [.ref q1, .int 0])), (q1, .inl (ca 3, 6, .inr (.inr (.inr (.inr (va_up (va_up (va_up (va_up (va_up (fun _ => none) 0 (some o2)) 1 (some o4)) 2 (some o6)) 3 (some o8)) 4 (some o10)))))))]) ++ ((stT ca o2 u3 S0c) ++ ((stT ca o4 u5 S0c) ++ ((stT ca o6 u7 S0c) ++ ((stT ca o8 u9 S0c) ++ (stT ca o10 u11 S0c)))))) ++ (([(o12, .inr (3, [.null, .null, .null, .null, .null, .null, .null, .null, .null, .int 0, .int 0, .int 0, .int 0, .int 0, .int 0]))]) ++ [])) H := hP
              have hD : va_D A ((([(h, .inr (0, [.ref q1, .int 0])), (q1, .inl (ca 3, 6, .inr (.inr (.inr (.inr (va_up (va_up (va_up (va_up (va_up (fun _ => none) 0 (some o2)) 1 (some o4)) 2 (some o6)) 3 (some o8)) 4 (some o10)))))))]) ++ ((stT ca o2 u3 S0c) ++ ((stT ca o4 u5 S0c) ++ ((stT ca o6 u7 S0c) ++ ((stT ca o8 u9 S0c) ++ (stT ca o10 u11 S0c)))))) ++ (([(o12, .inr (3, [.null, .null, .null, .null, .null, .null, .null, .null, .null, .int 0, .int 0, .int 0, .int 0, .int 0, .int 0]))]) ++ [])) := hD
              have hXc := SX.sub hX hev hS (A_mid hD hS hA)
              refine goC (va_runI (As := []) (rest := [.ref o12, .int (nI 5), .ref q1]) ⟨hx, hb, hml, hown, hts⟩ (c_X3_init l G ca tF o12 H.size) (cwI 0 hts gX0_init_X3_init rfl rfl rfl (hts (.initialized RX3) (List.mem_of_getElem? (i := 7) rfl)) (hts (.methodLink RX0 17 yX3_init) (List.mem_of_getElem? (i := 8) rfl)) (hts (.instanceMethod yX3_init) (List.mem_of_getElem? (i := 9) rfl)) rfl (by decide +kernel) ⟨Nat.le_of_ble_eq_true rfl, Nat.le_of_ble_eq_true rfl⟩) (pcX_S hev (P_left (P_right hP)) (D_left (D_right hD)) hXc) rfl rfl hl.1 rfl (lv_room (Nat.le_of_ble_eq_true rfl)) dX0_init_30 ⟨Nat.le_of_ble_eq_true rfl, Nat.le_of_ble_eq_true rfl⟩) hP hD hS hA (fun u13 huu13 H locs hP hD hS => ?_)
              have hP : va_P G vwCl (([(h, .inr (0, [.ref q1, .int 0])), (q1, .inl (ca 3, 6, .inr (.inr (.inr (.inr (va_up (va_up (va_up (va_up (va_up (fun _ => none) 0 (some o2)) 1 (some o4)) 2 (some o6)) 3 (some o8)) 4 (some o10)))))))]) ++ ((stT ca o2 u3 S0c) ++ ((stT ca o4 u5 S0c) ++ ((stT ca o6 u7 S0c) ++ ((stT ca o8 u9 S0c) ++ ((stT ca o10 u11 S0c) ++ (stT ca o12 u13 S0c))))))) H := hP
              have hD : va_D A (([(h, .inr (0, [.ref q1, .int 0])), (q1, .inl (ca 3, 6, .inr (.inr (.inr (.inr (va_up (va_up (va_up (va_up (va_up (fun _ => none) 0 (some o2)) 1 (some o4)) 2 (some o6)) 3 (some o8)) 4 (some o10)))))))]) ++ ((stT ca o2 u3 S0c) ++ ((stT ca o4 u5 S0c) ++ ((stT ca o6 u7 S0c) ++ ((stT ca o8 u9 S0c) ++ ((stT ca o10 u11 S0c) ++ (stT ca o12 u13 S0c))))))) := hD
              refine W.widen (k := 61) (n := 912) (by omega) (by omega) ?_
              refine b_aast hx hb hev.1 hP hD hS 1 (qk := 52) ⟨rfl, rfl⟩ rfl rfl (j := 5) (by decide) (by decide) dX0_init_33 (fun H locs hP hD hS => ?_)
              have hP : va_P G vwCl (([(h, .inr (0, [.ref q1, .int 0])), (q1, .inl (ca 3, 6, .inr (.inr (.inr (.inr (va_up (va_up (va_up (va_up (va_up (va_up (fun _ => none) 0 (some o2)) 1 (some o4)) 2 (some o6)) 3 (some o8)) 4 (some o10)) 5 (some o12)))))))]) ++ ((stT ca o2 u3 S0c) ++ ((stT ca o4 u5 S0c) ++ ((stT ca o6 u7 S0c) ++ ((stT ca o8 u9 S0c) ++ ((stT ca o10 u11 S0c) ++ (stT ca o12 u13 S0c))))))) H := hP
              have hD : va_D A (([(h, .inr (0, [.ref q1, .int 0])), (q1, .inl (ca 3, 6, .inr (.inr (.inr (.inr (va_up (va_up (va_up (va_up (va_up (va_up (fun _ => none) 0 (some o2)) 1 (some o4)) 2 (some o6)) 3 (some o8)) 4 (some o10)) 5 (some o12)))))))]) ++ ((stT ca o2 u3 S0c) ++ ((stT ca o4 u5 S0c) ++ ((stT ca o6 u7 S0c) ++ ((stT ca o8 u9 S0c) ++ ((stT ca o10 u11 S0c) ++ (stT ca o12 u13 S0c))))))) := hD
              refine lv_iinc (v := nI 6) (lv' := [(1, .int (nI 6)), (0, .ref h)]) hx hb dX0_init_34 hl (k := 0) rfl (nI_add 5 1) (by decide) rfl (fun ls hl => ?_)
              refine lv_goto (tgt := 15) hx hb dX0_init_37 (by decide) ?_
              refine lv_iload_n hx hb dX0_init_15 rfl (lv_at hl 0 rfl) ?_
              refine lv_bipush (v := nI 6) hx hb dX0_init_16 (by decide) ?_
              refine lv_icmp_ge (tgt := 40) hx hb dX0_init_18 (by decide) (fun c_7 => ?_) (fun c_7 => ?_)
              · skip
                exact hret (q1, va_up (va_up (va_up (va_up (va_up (va_up (fun _ => none) 0 (some o2)) 1 (some o4)) 2 (some o6)) 3 (some o8)) 4 (some o10)) 5 (some o12), fun j => [o2, o4, o6, o8, o10, o12].getD j 0, fun j => [u3, u5, u7, u9, u11, u13].getD j (fun _ => 0)) (fun i hi => by rcases (show i = 0 ∨ i = 1 ∨ i = 2 ∨ i = 3 ∨ i = 4 ∨ i = 5 by omega) with rfl | rfl | rfl | rfl | rfl | rfl <;> rfl) _ _ _ _ hP hD hS dX0_init_40
              · skip
                exact absurd (nI_le (by omega) (by omega)) c_7
set_option maxHeartbeats 4000000 in
set_option maxRecDepth 100000 in
theorem c_X2_init (l : Launch) (G : va_G) (ca : Nat → ClassId) (tF : Nat) (h : Nat) : CtC l yX2_init wsX2_init ({ frames := 2, cells := 22, slots := 306, locals := 33 }) [.ref h] G ca tF ([(h, .inr (2, [.null, .null]))]) ((Nat × Nat) × (Nat → Option Nat) × (Nat → Nat) × (Nat → Nat → Nat)) (fun u => ∀ i, i < 2 → u.2.1 i = some (u.2.2.1 i)) (fun u => slT ca h u.1.1 u.1.2 u.2.1 (fun _ => 0) ++ (stT ca (u.2.2.1 0) (u.2.2.2 0) S0c ++ (stT ca (u.2.2.1 1) (u.2.2.2 1) S0c))) 22 306 := by
  refine CtC.ofW (cc := cX2_init) (maxL := 2) (by decide) rfl (Nat.le_of_ble_eq_true rfl) ?_
  intro pr en s m be me c A ls Q H hx hb hml hts hown hev hP hD hA hS hl hin hX hret
  have hown : s.vm.findClass RX2 = some m.cls := hown
  have hl : lv_has ls 2 [(0, .ref h)] := hl
  have hP : va_P G vwCl [(h, .inr (2, [.null, .null]))] H := hP
  have hD : va_D A [(h, .inr (2, [.null, .null]))] := hD
  have in_wsX20 : ∀ w ∈ wsX20, w ∈ wsX2_init := fun _ h => List.mem_cons_of_mem _ (List.mem_append_left _ (List.mem_append_right _ h))
  have in_wsX30 : ∀ w ∈ wsX30, w ∈ wsX2_init := fun _ h => List.mem_cons_of_mem _ (List.mem_append_right _ h)
  refine lv_aload_n hx hb dX2_init_0 rfl (lv_at hl 0 rfl) ?_
  refine W.objInit hx hb hown (hts (.methodLink RX2 3 objectInit) (List.mem_of_getElem? (i := 1) rfl)) (hts (.instanceMethod objectInit) (List.mem_of_getElem? (i := 2) rfl)) (hts (.code objectInit ⟨#[0xb1]⟩ 1 none) (List.mem_of_getElem? (i := 3) rfl)) rfl (by rw [hml]; exact hl.1) rfl dX2_init_1 (Nat.le_of_ble_eq_true rfl) (Nat.le_of_ble_eq_true rfl) ?_
  refine W.eq (g2 := F0 m 4 ls []) rfl ?_
  refine lv_aload_n hx hb dX2_init_4 rfl (lv_at hl 0 rfl) ?_
  refine lv_iconst (v := nI 2) hx hb dX2_init_5 (by decide) ?_
  refine b_newq hx hb hown (hts (.classLink RX2 9 RX3) (List.mem_of_getElem? (i := 4) rfl)) hX.2.1 hev hP hD hS hA (N := 2) (by decide) (by decide) (by decide) (Nat.le_of_ble_eq_true rfl) (Nat.le_of_ble_eq_true rfl) dX2_init_6 (fun q1 H hP hD hS => ?_)
  have hP : va_P G vwCl ([(h, .inr (2, [.null, .null])), (q1, .inl (ca 3, 2, .inr (.inr (.inr (.inr (fun _ => none))))))]) H := hP
  have hD : va_D A ([(h, .inr (2, [.null, .null])), (q1, .inl (ca 3, 2, .inr (.inr (.inr (.inr (fun _ => none))))))]) := hD
  refine W.widen (k := 1) (n := 2) (by omega) (by omega) ?_
  refine va_putF (D := G) (ci := 2) (v := .ref q1) (ty := tyX2 0) (C := RX2) (T := TX2) (N := 2) hx hb hts in_wsX20 tyX2 tyX2_ok nmX2 hown hev.1 hP hD hS 0 rfl rfl 0 (by decide) (hts (.fieldLink RX2 11 "PuddleMinistries$Slots" "kept" "[LPuddleMinistries$Street;") (List.mem_of_getElem? (i := 5) rfl)) (fun _ h9 => h9) rfl hin rfl (by decide +kernel) rfl rfl (Nat.le_of_ble_eq_true rfl) dX2_init_9 (fun H locs hP hD hS => ?_)
  have hP : va_P G vwCl ([(h, .inr (2, [.ref q1, .null])), (q1, .inl (ca 3, 2, .inr (.inr (.inr (.inr (fun _ => none))))))]) H := hP
  have hD : va_D A ([(h, .inr (2, [.ref q1, .null])), (q1, .inl (ca 3, 2, .inr (.inr (.inr (.inr (fun _ => none))))))]) := hD
  refine lv_aload_n hx hb dX2_init_12 rfl (lv_at hl 0 rfl) ?_
  refine lv_iconst (v := nI 2) hx hb dX2_init_13 (by decide) ?_
  refine b_newz hx hb (hts (.arrayClass .boolean) (List.mem_of_getElem? (i := 6) rfl)) hev hP hD hS hA (N := 2) (by decide) (by decide) (by decide) (Nat.le_of_ble_eq_true rfl) (Nat.le_of_ble_eq_true rfl) dX2_init_14 (fun q2 H hP hD hS => ?_)
  have hP : va_P G vwCl ([(h, .inr (2, [.ref q1, .null])), (q1, .inl (ca 3, 2, .inr (.inr (.inr (.inr (fun _ => none)))))), (q2, .inl (ca 2, 2, .inl (fun _ => 0)))]) H := hP
  have hD : va_D A ([(h, .inr (2, [.ref q1, .null])), (q1, .inl (ca 3, 2, .inr (.inr (.inr (.inr (fun _ => none)))))), (q2, .inl (ca 2, 2, .inl (fun _ => 0)))]) := hD
  refine W.widen (k := 2) (n := 4) (by omega) (by omega) ?_
  refine va_putF (D := G) (ci := 2) (v := .ref q2) (ty := tyX2 1) (C := RX2) (T := TX2) (N := 2) hx hb hts in_wsX20 tyX2 tyX2_ok nmX2 hown hev.1 hP hD hS 0 rfl rfl 1 (by decide) (hts (.fieldLink RX2 17 "PuddleMinistries$Slots" "used" "[Z") (List.mem_of_getElem? (i := 7) rfl)) (fun _ h9 => h9) rfl hin rfl (by decide +kernel) rfl rfl (Nat.le_of_ble_eq_true rfl) dX2_init_16 (fun H locs hP hD hS => ?_)
  have hP : va_P G vwCl ([(h, .inr (2, [.ref q1, .ref q2])), (q1, .inl (ca 3, 2, .inr (.inr (.inr (.inr (fun _ => none)))))), (q2, .inl (ca 2, 2, .inl (fun _ => 0)))]) H := hP
  have hD : va_D A ([(h, .inr (2, [.ref q1, .ref q2])), (q1, .inl (ca 3, 2, .inr (.inr (.inr (.inr (fun _ => none)))))), (q2, .inl (ca 2, 2, .inl (fun _ => 0)))]) := hD
  refine lv_iconst (v := nI 0) hx hb dX2_init_19 (by decide) ?_
  refine lv_istore_n (lv' := [(1, .int (nI 0)), (0, .ref h)]) hx hb dX2_init_20 rfl hl (by decide) rfl (fun ls hl => ?_)
  refine lv_iload_n hx hb dX2_init_21 rfl (lv_at hl 0 rfl) ?_
  refine lv_iconst (v := nI 2) hx hb dX2_init_22 (by decide) ?_
  refine lv_icmp_ge (tgt := 45) hx hb dX2_init_23 (by decide) (fun c_1 => ?_) (fun c_1 => ?_)
  · skip
    exact absurd c_1 (nI_ge (by omega) (by omega))
  · skip
    refine lv_aload_n hx hb dX2_init_26 rfl (lv_at hl 1 rfl) ?_
    refine va_get (D := G) (ci := 2) (v := .ref q1) (C := RX2) (T := TX2) (N := 2) hx hb hts in_wsX20 hown hev.1 hP 0 rfl rfl 0 (by decide) (hts (.fieldLink RX2 11 "PuddleMinistries$Slots" "kept" "[LPuddleMinistries$Street;") (List.mem_of_getElem? (i := 5) rfl)) (fun _ h9 => h9) rfl dX2_init_27 ?_
    refine lv_iload_n hx hb dX2_init_30 rfl (lv_at hl 0 rfl) ?_
    refine va_new (ci := 3) (fs := [.null, .null, .null, .null, .null, .null, .null, .null, .null, .int 0, .int 0, .int 0, .int 0, .int 0, .int 0]) (C := RX3) (T := TX3) (N := 15) hx hb hts in_wsX30 tyX3 tyX3_ok hown (hts (.classLink RX2 9 RX3) (List.mem_of_getElem? (i := 4) rfl)) (hts (.instantiable RX3 15) (List.mem_of_getElem? (i := 8) rfl)) (hts (.initialized RX3) (List.mem_of_getElem? (i := 9) rfl)) hev.1 hP hD hS hA rfl (fun j hj => by rcases (show j = 0 ∨ j = 1 ∨ j = 2 ∨ j = 3 ∨ j = 4 ∨ j = 5 ∨ j = 6 ∨ j = 7 ∨ j = 8 ∨ j = 9 ∨ j = 10 ∨ j = 11 ∨ j = 12 ∨ j = 13 ∨ j = 14 by omega) with rfl | rfl | rfl | rfl | rfl | rfl | rfl | rfl | rfl | rfl | rfl | rfl | rfl | rfl | rfl <;> rfl) (Nat.le_of_ble_eq_true rfl) (Nat.le_of_ble_eq_true rfl) dX2_init_31 (fun o3 H hP hD hS => ?_)
    have hP : va_P G vwCl (([(h, .inr (2, [.ref q1, .ref q2])), (q1, .inl (ca 3, 2, .inr (.inr (.inr (.inr (fun _ => none)))))), (q2, .inl (ca 2, 2, .inl (fun _ => 0)))]) ++ ([(o3, .inr (3, [.null, .null, .null, .null, .null, .null, .null, .null, .null, .int 0, .int 0, .int 0, .int 0, .int 0, .int 0]))])) H := hP
    have hD : va_D A (([(h, .inr (2, [.ref q1, .ref q2])), (q1, .inl (ca 3, 2, .inr (.inr (.inr (.inr (fun _ => none)))))), (q2, .inl (ca 2, 2, .inl (fun _ => 0)))]) ++ ([(o3, .inr (3, [.null, .null, .null, .null, .null, .null, .null, .null, .null, .int 0, .int 0, .int 0, .int 0, .int 0, .int 0]))])) := hD
    refine W.widen (k := 3) (n := 19) (by omega) (by omega) ?_
    refine lv_dup hx hb dX2_init_34 rfl ?_
    have hP : va_P G vwCl (([(h, .inr (2, [.ref q1, .ref q2])), (q1, .inl (ca 3, 2, .inr (.inr (.inr (.inr (fun _ => none)))))), (q2, .inl (ca 2, 2, .inl (fun _ => 0)))]) ++ (([(o3, .inr (3, [.null, .null, .null, .null, .null, .null, .null, .null, .null, .int 0, .int 0, .int 0, .int 0, .int 0, .int 0]))]) ++ [])) H := hP
    have hD : va_D A (([(h, .inr (2, [.ref q1, .ref q2])), (q1, .inl (ca 3, 2, .inr (.inr (.inr (.inr (fun _ => none)))))), (q2, .inl (ca 2, 2, .inl (fun _ => 0)))]) ++ (([(o3, .inr (3, [.null, .null, .null, .null, .null, .null, .null, .null, .null, .int 0, .int 0, .int 0, .int 0, .int 0, .int 0]))]) ++ [])) := hD
    have hXc := SX.sub hX hev hS (A_mid hD hS hA)
    refine goC (va_runI (As := []) (rest := [.ref o3, .int (nI 0), .ref q1]) ⟨hx, hb, hml, hown, hts⟩ (c_X3_init l G ca tF o3 H.size) (cwI 0 hts gX2_init_X3_init rfl rfl rfl (hts (.initialized RX3) (List.mem_of_getElem? (i := 9) rfl)) (hts (.methodLink RX2 21 yX3_init) (List.mem_of_getElem? (i := 10) rfl)) (hts (.instanceMethod yX3_init) (List.mem_of_getElem? (i := 11) rfl)) rfl (by decide +kernel) ⟨Nat.le_of_ble_eq_true rfl, Nat.le_of_ble_eq_true rfl⟩) (pcX_S hev (P_left (P_right hP)) (D_left (D_right hD)) hXc) rfl rfl hl.1 rfl (lv_room (Nat.le_of_ble_eq_true rfl)) dX2_init_35 ⟨Nat.le_of_ble_eq_true rfl, Nat.le_of_ble_eq_true rfl⟩) hP hD hS hA (fun u4 huu4 H locs hP hD hS => ?_)
    have hP : va_P G vwCl (([(h, .inr (2, [.ref q1, .ref q2])), (q1, .inl (ca 3, 2, .inr (.inr (.inr (.inr (fun _ => none)))))), (q2, .inl (ca 2, 2, .inl (fun _ => 0)))]) ++ (stT ca o3 u4 S0c)) H := hP
    have hD : va_D A (([(h, .inr (2, [.ref q1, .ref q2])), (q1, .inl (ca 3, 2, .inr (.inr (.inr (.inr (fun _ => none)))))), (q2, .inl (ca 2, 2, .inl (fun _ => 0)))]) ++ (stT ca o3 u4 S0c)) := hD
    refine W.widen (k := 12) (n := 155) (by omega) (by omega) ?_
    refine b_aast hx hb hev.1 hP hD hS 1 (qk := 3) ⟨rfl, rfl⟩ rfl rfl (j := 0) (by decide) (by decide) dX2_init_38 (fun H locs hP hD hS => ?_)
    have hP : va_P G vwCl (([(h, .inr (2, [.ref q1, .ref q2])), (q1, .inl (ca 3, 2, .inr (.inr (.inr (.inr (va_up (fun _ => none) 0 (some o3))))))), (q2, .inl (ca 2, 2, .inl (fun _ => 0)))]) ++ (stT ca o3 u4 S0c)) H := hP
    have hD : va_D A (([(h, .inr (2, [.ref q1, .ref q2])), (q1, .inl (ca 3, 2, .inr (.inr (.inr (.inr (va_up (fun _ => none) 0 (some o3))))))), (q2, .inl (ca 2, 2, .inl (fun _ => 0)))]) ++ (stT ca o3 u4 S0c)) := hD
    refine lv_iinc (v := nI 1) (lv' := [(1, .int (nI 1)), (0, .ref h)]) hx hb dX2_init_39 hl (k := 0) rfl (nI_add 0 1) (by decide) rfl (fun ls hl => ?_)
    refine lv_goto (tgt := 21) hx hb dX2_init_42 (by decide) ?_
    refine lv_iload_n hx hb dX2_init_21 rfl (lv_at hl 0 rfl) ?_
    refine lv_iconst (v := nI 2) hx hb dX2_init_22 (by decide) ?_
    refine lv_icmp_ge (tgt := 45) hx hb dX2_init_23 (by decide) (fun c_2 => ?_) (fun c_2 => ?_)
    · skip
      exact absurd c_2 (nI_ge (by omega) (by omega))
    · skip
      refine lv_aload_n hx hb dX2_init_26 rfl (lv_at hl 1 rfl) ?_
      refine va_get (D := G) (ci := 2) (v := .ref q1) (C := RX2) (T := TX2) (N := 2) hx hb hts in_wsX20 hown hev.1 hP 0 rfl rfl 0 (by decide) (hts (.fieldLink RX2 11 "PuddleMinistries$Slots" "kept" "[LPuddleMinistries$Street;") (List.mem_of_getElem? (i := 5) rfl)) (fun _ h9 => h9) rfl dX2_init_27 ?_
      refine lv_iload_n hx hb dX2_init_30 rfl (lv_at hl 0 rfl) ?_
      refine va_new (ci := 3) (fs := [.null, .null, .null, .null, .null, .null, .null, .null, .null, .int 0, .int 0, .int 0, .int 0, .int 0, .int 0]) (C := RX3) (T := TX3) (N := 15) hx hb hts in_wsX30 tyX3 tyX3_ok hown (hts (.classLink RX2 9 RX3) (List.mem_of_getElem? (i := 4) rfl)) (hts (.instantiable RX3 15) (List.mem_of_getElem? (i := 8) rfl)) (hts (.initialized RX3) (List.mem_of_getElem? (i := 9) rfl)) hev.1 hP hD hS hA rfl (fun j hj => by rcases (show j = 0 ∨ j = 1 ∨ j = 2 ∨ j = 3 ∨ j = 4 ∨ j = 5 ∨ j = 6 ∨ j = 7 ∨ j = 8 ∨ j = 9 ∨ j = 10 ∨ j = 11 ∨ j = 12 ∨ j = 13 ∨ j = 14 by omega) with rfl | rfl | rfl | rfl | rfl | rfl | rfl | rfl | rfl | rfl | rfl | rfl | rfl | rfl | rfl <;> rfl) (Nat.le_of_ble_eq_true rfl) (Nat.le_of_ble_eq_true rfl) dX2_init_31 (fun o5 H hP hD hS => ?_)
      have hP : va_P G vwCl (([(h, .inr (2, [.ref q1, .ref q2])), (q1, .inl (ca 3, 2, .inr (.inr (.inr (.inr (va_up (fun _ => none) 0 (some o3))))))), (q2, .inl (ca 2, 2, .inl (fun _ => 0)))]) ++ ((stT ca o3 u4 S0c) ++ ([(o5, .inr (3, [.null, .null, .null, .null, .null, .null, .null, .null, .null, .int 0, .int 0, .int 0, .int 0, .int 0, .int 0]))]))) H := hP
      have hD : va_D A (([(h, .inr (2, [.ref q1, .ref q2])), (q1, .inl (ca 3, 2, .inr (.inr (.inr (.inr (va_up (fun _ => none) 0 (some o3))))))), (q2, .inl (ca 2, 2, .inl (fun _ => 0)))]) ++ ((stT ca o3 u4 S0c) ++ ([(o5, .inr (3, [.null, .null, .null, .null, .null, .null, .null, .null, .null, .int 0, .int 0, .int 0, .int 0, .int 0, .int 0]))]))) := hD
      refine W.widen (k := 13) (n := 170) (by omega) (by omega) ?_
      refine lv_dup hx hb dX2_init_34 rfl ?_
      have hP : va_P G vwCl ((([(h, .inr (2, [.ref q1, .ref q2])), (q1, .inl (ca 3, 2, .inr (.inr (.inr (.inr (va_up (fun _ => none) 0 (some o3))))))), (q2, .inl (ca 2, 2, .inl (fun _ => 0)))]) ++ (stT ca o3 u4 S0c)) ++ (([(o5, .inr (3, [.null, .null, .null, .null, .null, .null, .null, .null, .null, .int 0, .int 0, .int 0, .int 0, .int 0, .int 0]))]) ++ [])) H := hP
      have hD : va_D A ((([(h, .inr (2, [.ref q1, .ref q2])), (q1, .inl (ca 3, 2, .inr (.inr (.inr (.inr (va_up (fun _ => none) 0 (some o3))))))), (q2, .inl (ca 2, 2, .inl (fun _ => 0)))]) ++ (stT ca o3 u4 S0c)) ++ (([(o5, .inr (3, [.null, .null, .null, .null, .null, .null, .null, .null, .null, .int 0, .int 0, .int 0, .int 0, .int 0, .int 0]))]) ++ [])) := hD
      have hXc := SX.sub hX hev hS (A_mid hD hS hA)
      refine goC (va_runI (As := []) (rest := [.ref o5, .int (nI 1), .ref q1]) ⟨hx, hb, hml, hown, hts⟩ (c_X3_init l G ca tF o5 H.size) (cwI 0 hts gX2_init_X3_init rfl rfl rfl (hts (.initialized RX3) (List.mem_of_getElem? (i := 9) rfl)) (hts (.methodLink RX2 21 yX3_init) (List.mem_of_getElem? (i := 10) rfl)) (hts (.instanceMethod yX3_init) (List.mem_of_getElem? (i := 11) rfl)) rfl (by decide +kernel) ⟨Nat.le_of_ble_eq_true rfl, Nat.le_of_ble_eq_true rfl⟩) (pcX_S hev (P_left (P_right hP)) (D_left (D_right hD)) hXc) rfl rfl hl.1 rfl (lv_room (Nat.le_of_ble_eq_true rfl)) dX2_init_35 ⟨Nat.le_of_ble_eq_true rfl, Nat.le_of_ble_eq_true rfl⟩) hP hD hS hA (fun u6 huu6 H locs hP hD hS => ?_)
      have hP : va_P G vwCl (([(h, .inr (2, [.ref q1, .ref q2])), (q1, .inl (ca 3, 2, .inr (.inr (.inr (.inr (va_up (fun _ => none) 0 (some o3))))))), (q2, .inl (ca 2, 2, .inl (fun _ => 0)))]) ++ ((stT ca o3 u4 S0c) ++ (stT ca o5 u6 S0c))) H := hP
      have hD : va_D A (([(h, .inr (2, [.ref q1, .ref q2])), (q1, .inl (ca 3, 2, .inr (.inr (.inr (.inr (va_up (fun _ => none) 0 (some o3))))))), (q2, .inl (ca 2, 2, .inl (fun _ => 0)))]) ++ ((stT ca o3 u4 S0c) ++ (stT ca o5 u6 S0c))) := hD
      refine W.widen (k := 22) (n := 306) (by omega) (by omega) ?_
      refine b_aast hx hb hev.1 hP hD hS 1 (qk := 13) ⟨rfl, rfl⟩ rfl rfl (j := 1) (by decide) (by decide) dX2_init_38 (fun H locs hP hD hS => ?_)
      have hP : va_P G vwCl (([(h, .inr (2, [.ref q1, .ref q2])), (q1, .inl (ca 3, 2, .inr (.inr (.inr (.inr (va_up (va_up (fun _ => none) 0 (some o3)) 1 (some o5))))))), (q2, .inl (ca 2, 2, .inl (fun _ => 0)))]) ++ ((stT ca o3 u4 S0c) ++ (stT ca o5 u6 S0c))) H := hP
      have hD : va_D A (([(h, .inr (2, [.ref q1, .ref q2])), (q1, .inl (ca 3, 2, .inr (.inr (.inr (.inr (va_up (va_up (fun _ => none) 0 (some o3)) 1 (some o5))))))), (q2, .inl (ca 2, 2, .inl (fun _ => 0)))]) ++ ((stT ca o3 u4 S0c) ++ (stT ca o5 u6 S0c))) := hD
      refine lv_iinc (v := nI 2) (lv' := [(1, .int (nI 2)), (0, .ref h)]) hx hb dX2_init_39 hl (k := 0) rfl (nI_add 1 1) (by decide) rfl (fun ls hl => ?_)
      refine lv_goto (tgt := 21) hx hb dX2_init_42 (by decide) ?_
      refine lv_iload_n hx hb dX2_init_21 rfl (lv_at hl 0 rfl) ?_
      refine lv_iconst (v := nI 2) hx hb dX2_init_22 (by decide) ?_
      refine lv_icmp_ge (tgt := 45) hx hb dX2_init_23 (by decide) (fun c_3 => ?_) (fun c_3 => ?_)
      · skip
        exact hret ((q1, q2), va_up (va_up (fun _ => none) 0 (some o3)) 1 (some o5), fun j => [o3, o5].getD j 0, fun j => [u4, u6].getD j (fun _ => 0)) (fun i hi => by rcases (show i = 0 ∨ i = 1 by omega) with rfl | rfl <;> rfl) _ _ _ _ hP hD hS dX2_init_45
      · skip
        exact absurd (nI_le (by omega) (by omega)) c_3
set_option maxHeartbeats 4000000 in
set_option maxRecDepth 100000 in
theorem c_X4_init (l : Launch) (G : va_G) (ca : Nat → ClassId) (tF : Nat) (h : Nat) : CtC l yX4_init wsX4_init ({ frames := 3, cells := 97, slots := 1435, locals := 54 }) [.ref h] G ca tF ([(h, .inr (4, [.null, .null, .null, .null]))]) ((Nat × Nat × Nat × Nat) × (Nat → Nat) × Nat × (Nat × (Nat → Option Nat) × (Nat → Nat) × (Nat → Nat → Nat)) × ((Nat × Nat) × (Nat → Option Nat) × (Nat → Nat) × (Nat → Nat → Nat))) (fun u => (∀ i, i < 6 → u.2.2.2.1.2.1 i = some (u.2.2.2.1.2.2.1 i)) ∧ (∀ i, i < 2 → u.2.2.2.2.2.1 i = some (u.2.2.2.2.2.2.1 i))) (fun u => xoT h u.1.1 u.1.2.1 u.1.2.2.1 u.1.2.2.2 ++ (stT ca u.1.1 u.2.1 S0c ++ (paT ca u.1.2.1 u.2.2.1 (fun _ => 0, nI 0) ++ ((hiT ca u.1.2.2.1 u.2.2.2.1.1 (nI 0) u.2.2.2.1.2.1 ++ (stT ca (u.2.2.2.1.2.2.1 0) (u.2.2.2.1.2.2.2 0) S0c ++ (stT ca (u.2.2.2.1.2.2.1 1) (u.2.2.2.1.2.2.2 1) S0c ++ (stT ca (u.2.2.2.1.2.2.1 2) (u.2.2.2.1.2.2.2 2) S0c ++ (stT ca (u.2.2.2.1.2.2.1 3) (u.2.2.2.1.2.2.2 3) S0c ++ (stT ca (u.2.2.2.1.2.2.1 4) (u.2.2.2.1.2.2.2 4) S0c ++ (stT ca (u.2.2.2.1.2.2.1 5) (u.2.2.2.1.2.2.2 5) S0c))))))) ++ (slT ca u.1.2.2.2 u.2.2.2.2.1.1 u.2.2.2.2.1.2 u.2.2.2.2.2.1 (fun _ => 0) ++ (stT ca (u.2.2.2.2.2.2.1 0) (u.2.2.2.2.2.2.2 0) S0c ++ (stT ca (u.2.2.2.2.2.2.1 1) (u.2.2.2.2.2.2.2 1) S0c))))))) 97 1435 := by
  refine CtC.ofW (cc := cX4_init) (maxL := 1) (by decide) rfl (Nat.le_of_ble_eq_true rfl) ?_
  intro pr en s m be me c A ls Q H hx hb hml hts hown hev hP hD hA hS hl hin hX hret
  have hown : s.vm.findClass RX4 = some m.cls := hown
  have hl : lv_has ls 1 [(0, .ref h)] := hl
  have hP : va_P G vwCl [(h, .inr (4, [.null, .null, .null, .null]))] H := hP
  have hD : va_D A [(h, .inr (4, [.null, .null, .null, .null]))] := hD
  have in_wsX30 : ∀ w ∈ wsX30, w ∈ wsX4_init := fun _ h => List.mem_cons_of_mem _ (List.mem_append_left _ (List.mem_append_left _ (List.mem_append_left _ (List.mem_append_left _ (List.mem_append_right _ h)))))
  have in_wsX40 : ∀ w ∈ wsX40, w ∈ wsX4_init := fun _ h => List.mem_cons_of_mem _ (List.mem_append_left _ (List.mem_append_left _ (List.mem_append_left _ (List.mem_append_right _ h))))
  have in_wsX10 : ∀ w ∈ wsX10, w ∈ wsX4_init := fun _ h => List.mem_cons_of_mem _ (List.mem_append_left _ (List.mem_append_left _ (List.mem_append_right _ h)))
  have in_wsX00 : ∀ w ∈ wsX00, w ∈ wsX4_init := fun _ h => List.mem_cons_of_mem _ (List.mem_append_left _ (List.mem_append_right _ h))
  have in_wsX20 : ∀ w ∈ wsX20, w ∈ wsX4_init := fun _ h => List.mem_cons_of_mem _ (List.mem_append_right _ h)
  refine lv_aload_n hx hb dX4_init_0 rfl (lv_at hl 0 rfl) ?_
  refine W.objInit hx hb hown (hts (.methodLink RX4 1 objectInit) (List.mem_of_getElem? (i := 1) rfl)) (hts (.instanceMethod objectInit) (List.mem_of_getElem? (i := 2) rfl)) (hts (.code objectInit ⟨#[0xb1]⟩ 1 none) (List.mem_of_getElem? (i := 3) rfl)) rfl (by rw [hml]; exact hl.1) rfl dX4_init_1 (Nat.le_of_ble_eq_true rfl) (Nat.le_of_ble_eq_true rfl) ?_
  refine W.eq (g2 := F0 m 4 ls []) rfl ?_
  refine lv_aload_n hx hb dX4_init_4 rfl (lv_at hl 0 rfl) ?_
  refine va_new (ci := 3) (fs := [.null, .null, .null, .null, .null, .null, .null, .null, .null, .int 0, .int 0, .int 0, .int 0, .int 0, .int 0]) (C := RX3) (T := TX3) (N := 15) hx hb hts in_wsX30 tyX3 tyX3_ok hown (hts (.classLink RX4 7 RX3) (List.mem_of_getElem? (i := 4) rfl)) (hts (.instantiable RX3 15) (List.mem_of_getElem? (i := 5) rfl)) (hts (.initialized RX3) (List.mem_of_getElem? (i := 6) rfl)) hev.1 hP hD hS hA rfl (fun j hj => by rcases (show j = 0 ∨ j = 1 ∨ j = 2 ∨ j = 3 ∨ j = 4 ∨ j = 5 ∨ j = 6 ∨ j = 7 ∨ j = 8 ∨ j = 9 ∨ j = 10 ∨ j = 11 ∨ j = 12 ∨ j = 13 ∨ j = 14 by omega) with rfl | rfl | rfl | rfl | rfl | rfl | rfl | rfl | rfl | rfl | rfl | rfl | rfl | rfl | rfl <;> rfl) (Nat.le_of_ble_eq_true rfl) (Nat.le_of_ble_eq_true rfl) dX4_init_5 (fun o1 H hP hD hS => ?_)
  have hP : va_P G vwCl (([(h, .inr (4, [.null, .null, .null, .null]))]) ++ ([(o1, .inr (3, [.null, .null, .null, .null, .null, .null, .null, .null, .null, .int 0, .int 0, .int 0, .int 0, .int 0, .int 0]))])) H := hP
  have hD : va_D A (([(h, .inr (4, [.null, .null, .null, .null]))]) ++ ([(o1, .inr (3, [.null, .null, .null, .null, .null, .null, .null, .null, .null, .int 0, .int 0, .int 0, .int 0, .int 0, .int 0]))])) := hD
  refine W.widen (k := 1) (n := 15) (by omega) (by omega) ?_
  refine lv_dup hx hb dX4_init_8 rfl ?_
  have hP : va_P G vwCl (([(h, .inr (4, [.null, .null, .null, .null]))]) ++ (([(o1, .inr (3, [.null, .null, .null, .null, .null, .null, .null, .null, .null, .int 0, .int 0, .int 0, .int 0, .int 0, .int 0]))]) ++ [])) H := hP
  have hD : va_D A (([(h, .inr (4, [.null, .null, .null, .null]))]) ++ (([(o1, .inr (3, [.null, .null, .null, .null, .null, .null, .null, .null, .null, .int 0, .int 0, .int 0, .int 0, .int 0, .int 0]))]) ++ [])) := hD
  have hXc := SX.sub hX hev hS (A_mid hD hS hA)
  refine goC (va_runI (As := []) (rest := [.ref o1, .ref h]) ⟨hx, hb, hml, hown, hts⟩ (c_X3_init l G ca tF o1 H.size) (cwI 0 hts gX4_init_X3_init rfl rfl rfl (hts (.initialized RX3) (List.mem_of_getElem? (i := 6) rfl)) (hts (.methodLink RX4 9 yX3_init) (List.mem_of_getElem? (i := 20) rfl)) (hts (.instanceMethod yX3_init) (List.mem_of_getElem? (i := 21) rfl)) rfl (by decide +kernel) ⟨Nat.le_of_ble_eq_true rfl, Nat.le_of_ble_eq_true rfl⟩) (pcX_S hev (P_left (P_right hP)) (D_left (D_right hD)) hXc) rfl rfl hl.1 rfl (lv_room (Nat.le_of_ble_eq_true rfl)) dX4_init_9 ⟨Nat.le_of_ble_eq_true rfl, Nat.le_of_ble_eq_true rfl⟩) hP hD hS hA (fun u2 huu2 H locs hP hD hS => ?_)
  have hP : va_P G vwCl (([(h, .inr (4, [.null, .null, .null, .null]))]) ++ (stT ca o1 u2 S0c)) H := hP
  have hD : va_D A (([(h, .inr (4, [.null, .null, .null, .null]))]) ++ (stT ca o1 u2 S0c)) := hD
  refine W.widen (k := 10) (n := 151) (by omega) (by omega) ?_
  refine va_putF (D := G) (ci := 4) (v := .ref o1) (ty := tyX4 0) (C := RX4) (T := TX4) (N := 4) hx hb hts in_wsX40 tyX4 tyX4_ok nmX4 hown hev.1 hP hD hS 0 rfl rfl 0 (by decide) (hts (.fieldLink RX4 10 "PuddleMinistries" "street" "LPuddleMinistries$Street;") (List.mem_of_getElem? (i := 7) rfl)) (fun _ h9 => h9) rfl hin rfl (by decide +kernel) rfl rfl (Nat.le_of_ble_eq_true rfl) dX4_init_12 (fun H locs hP hD hS => ?_)
  have hP : va_P G vwCl (([(h, .inr (4, [.ref o1, .null, .null, .null]))]) ++ (stT ca o1 u2 S0c)) H := hP
  have hD : va_D A (([(h, .inr (4, [.ref o1, .null, .null, .null]))]) ++ (stT ca o1 u2 S0c)) := hD
  refine lv_aload_n hx hb dX4_init_15 rfl (lv_at hl 0 rfl) ?_
  refine va_new (ci := 1) (fs := [.null, .int 0]) (C := RX1) (T := TX1) (N := 2) hx hb hts in_wsX10 tyX1 tyX1_ok hown (hts (.classLink RX4 16 RX1) (List.mem_of_getElem? (i := 8) rfl)) (hts (.instantiable RX1 2) (List.mem_of_getElem? (i := 9) rfl)) (hts (.initialized RX1) (List.mem_of_getElem? (i := 10) rfl)) hev.1 hP hD hS hA rfl (fun j hj => by rcases (show j = 0 ∨ j = 1 by omega) with rfl | rfl <;> rfl) (Nat.le_of_ble_eq_true rfl) (Nat.le_of_ble_eq_true rfl) dX4_init_16 (fun o3 H hP hD hS => ?_)
  have hP : va_P G vwCl (([(h, .inr (4, [.ref o1, .null, .null, .null]))]) ++ ((stT ca o1 u2 S0c) ++ ([(o3, .inr (1, [.null, .int 0]))]))) H := hP
  have hD : va_D A (([(h, .inr (4, [.ref o1, .null, .null, .null]))]) ++ ((stT ca o1 u2 S0c) ++ ([(o3, .inr (1, [.null, .int 0]))]))) := hD
  refine W.widen (k := 11) (n := 153) (by omega) (by omega) ?_
  refine lv_dup hx hb dX4_init_19 rfl ?_
  have hP : va_P G vwCl ((([(h, .inr (4, [.ref o1, .null, .null, .null]))]) ++ (stT ca o1 u2 S0c)) ++ (([(o3, .inr (1, [.null, .int 0]))]) ++ [])) H := hP
  have hD : va_D A ((([(h, .inr (4, [.ref o1, .null, .null, .null]))]) ++ (stT ca o1 u2 S0c)) ++ (([(o3, .inr (1, [.null, .int 0]))]) ++ [])) := hD
  have hXc := SX.sub hX hev hS (A_mid hD hS hA)
  refine goC (va_runIN (As := []) (rest := [.ref o3, .ref h]) ⟨hx, hb, hml, hown, hts⟩ (c_X1_init l G ca tF o3 H.size) ⟨va_cnB 0 hts gX4_init_X1_init_n18 rfl rfl rfl hev.2.1 (hts (.initialized RX1) (List.mem_of_getElem? (i := 10) rfl)) (by decide +kernel) ⟨Nat.le_of_ble_eq_true rfl, Nat.le_of_ble_eq_true rfl⟩, rfl, hts (.instanceMethod yX1_init) (List.mem_of_getElem? (i := 34) rfl)⟩ (pcX_S hev (P_left (P_right hP)) (D_left (D_right hD)) hXc) rfl rfl hl.1 rfl (lv_room (Nat.le_of_ble_eq_true rfl)) dX4_init_20 ⟨Nat.le_of_ble_eq_true rfl, Nat.le_of_ble_eq_true rfl⟩) hP hD hS hA (fun u4 huu4 H locs hP hD hS => ?_)
  have hP : va_P G vwCl (([(h, .inr (4, [.ref o1, .null, .null, .null]))]) ++ ((stT ca o1 u2 S0c) ++ (paT ca o3 u4 (fun _ => 0, nI 0)))) H := hP
  have hD : va_D A (([(h, .inr (4, [.ref o1, .null, .null, .null]))]) ++ ((stT ca o1 u2 S0c) ++ (paT ca o3 u4 (fun _ => 0, nI 0)))) := hD
  refine W.widen (k := 12) (n := 213) (by omega) (by omega) ?_
  refine va_putF (D := G) (ci := 4) (v := .ref o3) (ty := tyX4 1) (C := RX4) (T := TX4) (N := 4) hx hb hts in_wsX40 tyX4 tyX4_ok nmX4 hown hev.1 hP hD hS 0 rfl rfl 1 (by decide) (hts (.fieldLink RX4 19 "PuddleMinistries" "pad" "LPuddleMinistries$Pad;") (List.mem_of_getElem? (i := 11) rfl)) (fun _ h9 => h9) rfl hin rfl (by decide +kernel) rfl rfl (Nat.le_of_ble_eq_true rfl) dX4_init_23 (fun H locs hP hD hS => ?_)
  have hP : va_P G vwCl (([(h, .inr (4, [.ref o1, .ref o3, .null, .null]))]) ++ ((stT ca o1 u2 S0c) ++ (paT ca o3 u4 (fun _ => 0, nI 0)))) H := hP
  have hD : va_D A (([(h, .inr (4, [.ref o1, .ref o3, .null, .null]))]) ++ ((stT ca o1 u2 S0c) ++ (paT ca o3 u4 (fun _ => 0, nI 0)))) := hD
  refine lv_aload_n hx hb dX4_init_26 rfl (lv_at hl 0 rfl) ?_
  refine va_new (ci := 0) (fs := [.null, .int 0]) (C := RX0) (T := TX0) (N := 2) hx hb hts in_wsX00 tyX0 tyX0_ok hown (hts (.classLink RX4 23 RX0) (List.mem_of_getElem? (i := 12) rfl)) (hts (.instantiable RX0 2) (List.mem_of_getElem? (i := 13) rfl)) (hts (.initialized RX0) (List.mem_of_getElem? (i := 14) rfl)) hev.1 hP hD hS hA rfl (fun j hj => by rcases (show j = 0 ∨ j = 1 by omega) with rfl | rfl <;> rfl) (Nat.le_of_ble_eq_true rfl) (Nat.le_of_ble_eq_true rfl) dX4_init_27 (fun o5 H hP hD hS => ?_)
  have hP : va_P G vwCl (([(h, .inr (4, [.ref o1, .ref o3, .null, .null]))]) ++ ((stT ca o1 u2 S0c) ++ ((paT ca o3 u4 (fun _ => 0, nI 0)) ++ ([(o5, .inr (0, [.null, .int 0]))])))) H := hP
  have hD : va_D A (([(h, .inr (4, [.ref o1, .ref o3, .null, .null]))]) ++ ((stT ca o1 u2 S0c) ++ ((paT ca o3 u4 (fun _ => 0, nI 0)) ++ ([(o5, .inr (0, [.null, .int 0]))])))) := hD
  refine W.widen (k := 13) (n := 215) (by omega) (by omega) ?_
  refine lv_dup hx hb dX4_init_30 rfl ?_
  have hP : va_P G vwCl ((([(h, .inr (4, [.ref o1, .ref o3, .null, .null]))]) ++ ((stT ca o1 u2 S0c) ++ (paT ca o3 u4 (fun _ => 0, nI 0)))) ++ (([(o5, .inr (0, [.null, .int 0]))]) ++ [])) H := hP
  have hD : va_D A ((([(h, .inr (4, [.ref o1, .ref o3, .null, .null]))]) ++ ((stT ca o1 u2 S0c) ++ (paT ca o3 u4 (fun _ => 0, nI 0)))) ++ (([(o5, .inr (0, [.null, .int 0]))]) ++ [])) := hD
  have hXc := SX.sub hX hev hS (A_mid hD hS hA)
  refine goC (va_runI (As := []) (rest := [.ref o5, .ref h]) ⟨hx, hb, hml, hown, hts⟩ (c_X0_init l G ca tF o5 H.size) (cwI 0 hts gX4_init_X0_init rfl rfl rfl (hts (.initialized RX0) (List.mem_of_getElem? (i := 14) rfl)) (hts (.methodLink RX4 25 yX0_init) (List.mem_of_getElem? (i := 39) rfl)) (hts (.instanceMethod yX0_init) (List.mem_of_getElem? (i := 40) rfl)) rfl (by decide +kernel) ⟨Nat.le_of_ble_eq_true rfl, Nat.le_of_ble_eq_true rfl⟩) (pcX_S hev (P_left (P_right hP)) (D_left (D_right hD)) hXc) rfl rfl hl.1 rfl (lv_room (Nat.le_of_ble_eq_true rfl)) dX4_init_31 ⟨Nat.le_of_ble_eq_true rfl, Nat.le_of_ble_eq_true rfl⟩) hP hD hS hA (fun u6 huu6 H locs hP hD hS => ?_)
  have hP : va_P G vwCl (([(h, .inr (4, [.ref o1, .ref o3, .null, .null]))]) ++ ((stT ca o1 u2 S0c) ++ ((paT ca o3 u4 (fun _ => 0, nI 0)) ++ ((hiT ca o5 u6.1 (nI 0) u6.2.1) ++ ((stT ca (u6.2.2.1 0) (u6.2.2.2 0) S0c) ++ ((stT ca (u6.2.2.1 1) (u6.2.2.2 1) S0c) ++ ((stT ca (u6.2.2.1 2) (u6.2.2.2 2) S0c) ++ ((stT ca (u6.2.2.1 3) (u6.2.2.2 3) S0c) ++ ((stT ca (u6.2.2.1 4) (u6.2.2.2 4) S0c) ++ (stT ca (u6.2.2.1 5) (u6.2.2.2 5) S0c)))))))))) H := hP
  have hD : va_D A (([(h, .inr (4, [.ref o1, .ref o3, .null, .null]))]) ++ ((stT ca o1 u2 S0c) ++ ((paT ca o3 u4 (fun _ => 0, nI 0)) ++ ((hiT ca o5 u6.1 (nI 0) u6.2.1) ++ ((stT ca (u6.2.2.1 0) (u6.2.2.2 0) S0c) ++ ((stT ca (u6.2.2.1 1) (u6.2.2.2 1) S0c) ++ ((stT ca (u6.2.2.1 2) (u6.2.2.2 2) S0c) ++ ((stT ca (u6.2.2.1 3) (u6.2.2.2 3) S0c) ++ ((stT ca (u6.2.2.1 4) (u6.2.2.2 4) S0c) ++ (stT ca (u6.2.2.1 5) (u6.2.2.2 5) S0c)))))))))) := hD
  refine W.widen (k := 74) (n := 1127) (by omega) (by omega) ?_
  refine va_putF (D := G) (ci := 4) (v := .ref o5) (ty := tyX4 2) (C := RX4) (T := TX4) (N := 4) hx hb hts in_wsX40 tyX4 tyX4_ok nmX4 hown hev.1 hP hD hS 0 rfl rfl 2 (by decide) (hts (.fieldLink RX4 26 "PuddleMinistries" "history" "LPuddleMinistries$History;") (List.mem_of_getElem? (i := 15) rfl)) (fun _ h9 => h9) rfl hin rfl (by decide +kernel) rfl rfl (Nat.le_of_ble_eq_true rfl) dX4_init_34 (fun H locs hP hD hS => ?_)
  have hP : va_P G vwCl (([(h, .inr (4, [.ref o1, .ref o3, .ref o5, .null]))]) ++ ((stT ca o1 u2 S0c) ++ ((paT ca o3 u4 (fun _ => 0, nI 0)) ++ ((hiT ca o5 u6.1 (nI 0) u6.2.1) ++ ((stT ca (u6.2.2.1 0) (u6.2.2.2 0) S0c) ++ ((stT ca (u6.2.2.1 1) (u6.2.2.2 1) S0c) ++ ((stT ca (u6.2.2.1 2) (u6.2.2.2 2) S0c) ++ ((stT ca (u6.2.2.1 3) (u6.2.2.2 3) S0c) ++ ((stT ca (u6.2.2.1 4) (u6.2.2.2 4) S0c) ++ (stT ca (u6.2.2.1 5) (u6.2.2.2 5) S0c)))))))))) H := hP
  have hD : va_D A (([(h, .inr (4, [.ref o1, .ref o3, .ref o5, .null]))]) ++ ((stT ca o1 u2 S0c) ++ ((paT ca o3 u4 (fun _ => 0, nI 0)) ++ ((hiT ca o5 u6.1 (nI 0) u6.2.1) ++ ((stT ca (u6.2.2.1 0) (u6.2.2.2 0) S0c) ++ ((stT ca (u6.2.2.1 1) (u6.2.2.2 1) S0c) ++ ((stT ca (u6.2.2.1 2) (u6.2.2.2 2) S0c) ++ ((stT ca (u6.2.2.1 3) (u6.2.2.2 3) S0c) ++ ((stT ca (u6.2.2.1 4) (u6.2.2.2 4) S0c) ++ (stT ca (u6.2.2.1 5) (u6.2.2.2 5) S0c)))))))))) := hD
  refine lv_aload_n hx hb dX4_init_37 rfl (lv_at hl 0 rfl) ?_
  refine va_new (ci := 2) (fs := [.null, .null]) (C := RX2) (T := TX2) (N := 2) hx hb hts in_wsX20 tyX2 tyX2_ok hown (hts (.classLink RX4 30 RX2) (List.mem_of_getElem? (i := 16) rfl)) (hts (.instantiable RX2 2) (List.mem_of_getElem? (i := 17) rfl)) (hts (.initialized RX2) (List.mem_of_getElem? (i := 18) rfl)) hev.1 hP hD hS hA rfl (fun j hj => by rcases (show j = 0 ∨ j = 1 by omega) with rfl | rfl <;> rfl) (Nat.le_of_ble_eq_true rfl) (Nat.le_of_ble_eq_true rfl) dX4_init_38 (fun o7 H hP hD hS => ?_)
  have hP : va_P G vwCl (([(h, .inr (4, [.ref o1, .ref o3, .ref o5, .null]))]) ++ ((stT ca o1 u2 S0c) ++ ((paT ca o3 u4 (fun _ => 0, nI 0)) ++ ((hiT ca o5 u6.1 (nI 0) u6.2.1) ++ ((stT ca (u6.2.2.1 0) (u6.2.2.2 0) S0c) ++ ((stT ca (u6.2.2.1 1) (u6.2.2.2 1) S0c) ++ ((stT ca (u6.2.2.1 2) (u6.2.2.2 2) S0c) ++ ((stT ca (u6.2.2.1 3) (u6.2.2.2 3) S0c) ++ ((stT ca (u6.2.2.1 4) (u6.2.2.2 4) S0c) ++ ((stT ca (u6.2.2.1 5) (u6.2.2.2 5) S0c) ++ ([(o7, .inr (2, [.null, .null]))]))))))))))) H := hP
  have hD : va_D A (([(h, .inr (4, [.ref o1, .ref o3, .ref o5, .null]))]) ++ ((stT ca o1 u2 S0c) ++ ((paT ca o3 u4 (fun _ => 0, nI 0)) ++ ((hiT ca o5 u6.1 (nI 0) u6.2.1) ++ ((stT ca (u6.2.2.1 0) (u6.2.2.2 0) S0c) ++ ((stT ca (u6.2.2.1 1) (u6.2.2.2 1) S0c) ++ ((stT ca (u6.2.2.1 2) (u6.2.2.2 2) S0c) ++ ((stT ca (u6.2.2.1 3) (u6.2.2.2 3) S0c) ++ ((stT ca (u6.2.2.1 4) (u6.2.2.2 4) S0c) ++ ((stT ca (u6.2.2.1 5) (u6.2.2.2 5) S0c) ++ ([(o7, .inr (2, [.null, .null]))]))))))))))) := hD
  refine W.widen (k := 75) (n := 1129) (by omega) (by omega) ?_
  refine lv_dup hx hb dX4_init_41 rfl ?_
  have hP : va_P G vwCl ((([(h, .inr (4, [.ref o1, .ref o3, .ref o5, .null]))]) ++ ((stT ca o1 u2 S0c) ++ ((paT ca o3 u4 (fun _ => 0, nI 0)) ++ ((hiT ca o5 u6.1 (nI 0) u6.2.1) ++ ((stT ca (u6.2.2.1 0) (u6.2.2.2 0) S0c) ++ ((stT ca (u6.2.2.1 1) (u6.2.2.2 1) S0c) ++ ((stT ca (u6.2.2.1 2) (u6.2.2.2 2) S0c) ++ ((stT ca (u6.2.2.1 3) (u6.2.2.2 3) S0c) ++ ((stT ca (u6.2.2.1 4) (u6.2.2.2 4) S0c) ++ (stT ca (u6.2.2.1 5) (u6.2.2.2 5) S0c)))))))))) ++ (([(o7, .inr (2, [.null, .null]))]) ++ [])) H := hP
  have hD : va_D A ((([(h, .inr (4, [.ref o1, .ref o3, .ref o5, .null]))]) ++ ((stT ca o1 u2 S0c) ++ ((paT ca o3 u4 (fun _ => 0, nI 0)) ++ ((hiT ca o5 u6.1 (nI 0) u6.2.1) ++ ((stT ca (u6.2.2.1 0) (u6.2.2.2 0) S0c) ++ ((stT ca (u6.2.2.1 1) (u6.2.2.2 1) S0c) ++ ((stT ca (u6.2.2.1 2) (u6.2.2.2 2) S0c) ++ ((stT ca (u6.2.2.1 3) (u6.2.2.2 3) S0c) ++ ((stT ca (u6.2.2.1 4) (u6.2.2.2 4) S0c) ++ (stT ca (u6.2.2.1 5) (u6.2.2.2 5) S0c)))))))))) ++ (([(o7, .inr (2, [.null, .null]))]) ++ [])) := hD
  have hXc := SX.sub hX hev hS (A_mid hD hS hA)
  refine goC (va_runI (As := []) (rest := [.ref o7, .ref h]) ⟨hx, hb, hml, hown, hts⟩ (c_X2_init l G ca tF o7 H.size) (cwI 0 hts gX4_init_X2_init rfl rfl rfl (hts (.initialized RX2) (List.mem_of_getElem? (i := 18) rfl)) (hts (.methodLink RX4 32 yX2_init) (List.mem_of_getElem? (i := 46) rfl)) (hts (.instanceMethod yX2_init) (List.mem_of_getElem? (i := 47) rfl)) rfl (by decide +kernel) ⟨Nat.le_of_ble_eq_true rfl, Nat.le_of_ble_eq_true rfl⟩) (pcX_S hev (P_left (P_right hP)) (D_left (D_right hD)) hXc) rfl rfl hl.1 rfl (lv_room (Nat.le_of_ble_eq_true rfl)) dX4_init_42 ⟨Nat.le_of_ble_eq_true rfl, Nat.le_of_ble_eq_true rfl⟩) hP hD hS hA (fun u8 huu8 H locs hP hD hS => ?_)
  have hP : va_P G vwCl (([(h, .inr (4, [.ref o1, .ref o3, .ref o5, .null]))]) ++ ((stT ca o1 u2 S0c) ++ ((paT ca o3 u4 (fun _ => 0, nI 0)) ++ ((hiT ca o5 u6.1 (nI 0) u6.2.1) ++ ((stT ca (u6.2.2.1 0) (u6.2.2.2 0) S0c) ++ ((stT ca (u6.2.2.1 1) (u6.2.2.2 1) S0c) ++ ((stT ca (u6.2.2.1 2) (u6.2.2.2 2) S0c) ++ ((stT ca (u6.2.2.1 3) (u6.2.2.2 3) S0c) ++ ((stT ca (u6.2.2.1 4) (u6.2.2.2 4) S0c) ++ ((stT ca (u6.2.2.1 5) (u6.2.2.2 5) S0c) ++ ((slT ca o7 u8.1.1 u8.1.2 u8.2.1 (fun _ => 0)) ++ ((stT ca (u8.2.2.1 0) (u8.2.2.2 0) S0c) ++ (stT ca (u8.2.2.1 1) (u8.2.2.2 1) S0c))))))))))))) H := hP
  have hD : va_D A (([(h, .inr (4, [.ref o1, .ref o3, .ref o5, .null]))]) ++ ((stT ca o1 u2 S0c) ++ ((paT ca o3 u4 (fun _ => 0, nI 0)) ++ ((hiT ca o5 u6.1 (nI 0) u6.2.1) ++ ((stT ca (u6.2.2.1 0) (u6.2.2.2 0) S0c) ++ ((stT ca (u6.2.2.1 1) (u6.2.2.2 1) S0c) ++ ((stT ca (u6.2.2.1 2) (u6.2.2.2 2) S0c) ++ ((stT ca (u6.2.2.1 3) (u6.2.2.2 3) S0c) ++ ((stT ca (u6.2.2.1 4) (u6.2.2.2 4) S0c) ++ ((stT ca (u6.2.2.1 5) (u6.2.2.2 5) S0c) ++ ((slT ca o7 u8.1.1 u8.1.2 u8.2.1 (fun _ => 0)) ++ ((stT ca (u8.2.2.1 0) (u8.2.2.2 0) S0c) ++ (stT ca (u8.2.2.1 1) (u8.2.2.2 1) S0c))))))))))))) := hD
  refine W.widen (k := 97) (n := 1435) (by omega) (by omega) ?_
  refine va_putF (D := G) (ci := 4) (v := .ref o7) (ty := tyX4 3) (C := RX4) (T := TX4) (N := 4) hx hb hts in_wsX40 tyX4 tyX4_ok nmX4 hown hev.1 hP hD hS 0 rfl rfl 3 (by decide) (hts (.fieldLink RX4 33 "PuddleMinistries" "slots" "LPuddleMinistries$Slots;") (List.mem_of_getElem? (i := 19) rfl)) (fun _ h9 => h9) rfl hin rfl (by decide +kernel) rfl rfl (Nat.le_of_ble_eq_true rfl) dX4_init_45 (fun H locs hP hD hS => ?_)
  have hP : va_P G vwCl (([(h, .inr (4, [.ref o1, .ref o3, .ref o5, .ref o7]))]) ++ ((stT ca o1 u2 S0c) ++ ((paT ca o3 u4 (fun _ => 0, nI 0)) ++ ((hiT ca o5 u6.1 (nI 0) u6.2.1) ++ ((stT ca (u6.2.2.1 0) (u6.2.2.2 0) S0c) ++ ((stT ca (u6.2.2.1 1) (u6.2.2.2 1) S0c) ++ ((stT ca (u6.2.2.1 2) (u6.2.2.2 2) S0c) ++ ((stT ca (u6.2.2.1 3) (u6.2.2.2 3) S0c) ++ ((stT ca (u6.2.2.1 4) (u6.2.2.2 4) S0c) ++ ((stT ca (u6.2.2.1 5) (u6.2.2.2 5) S0c) ++ ((slT ca o7 u8.1.1 u8.1.2 u8.2.1 (fun _ => 0)) ++ ((stT ca (u8.2.2.1 0) (u8.2.2.2 0) S0c) ++ (stT ca (u8.2.2.1 1) (u8.2.2.2 1) S0c))))))))))))) H := hP
  have hD : va_D A (([(h, .inr (4, [.ref o1, .ref o3, .ref o5, .ref o7]))]) ++ ((stT ca o1 u2 S0c) ++ ((paT ca o3 u4 (fun _ => 0, nI 0)) ++ ((hiT ca o5 u6.1 (nI 0) u6.2.1) ++ ((stT ca (u6.2.2.1 0) (u6.2.2.2 0) S0c) ++ ((stT ca (u6.2.2.1 1) (u6.2.2.2 1) S0c) ++ ((stT ca (u6.2.2.1 2) (u6.2.2.2 2) S0c) ++ ((stT ca (u6.2.2.1 3) (u6.2.2.2 3) S0c) ++ ((stT ca (u6.2.2.1 4) (u6.2.2.2 4) S0c) ++ ((stT ca (u6.2.2.1 5) (u6.2.2.2 5) S0c) ++ ((slT ca o7 u8.1.1 u8.1.2 u8.2.1 (fun _ => 0)) ++ ((stT ca (u8.2.2.1 0) (u8.2.2.2 0) S0c) ++ (stT ca (u8.2.2.1 1) (u8.2.2.2 1) S0c))))))))))))) := hD
  exact hret ((o1, o3, o5, o7), u2, u4, u6, u8) ⟨huu6, huu8⟩ _ _ _ _ hP hD hS dX4_init_48
def z4 : Nat → Int32 := upd (upd (upd (upd (fun _ => 0) 0 3) 1 2) 2 15) 3 5
def z0L : Nat → (Nat → Int32) | 0 => z4 | i + 1 => upd (z0L i) (8 + 5 * i + 0) 20
def M0L (i : Nat) : MM := (z0L i, fun _ => 0, 0, fun _ => 0, fun _ => 0, fun _ => 0, 0, 0, fun _ => 0, 0)
def M0c : MM := M0L 12
set_option maxHeartbeats 4000000 in
set_option maxRecDepth 100000 in
theorem c_X5_init (l : Launch) (G : va_G) (ca : Nat → ClassId) (tF : Nat) (h : Nat) : CtC l yX5_init wsX5_init ({ frames := 1, cells := 6, slots := 1598, locals := 23 }) [.ref h] G ca tF ([(h, .inr (5, [.null, .null, .int 0, .null, .null, .null, .int 0, .int 0, .null, .int 0]))]) (Nat → Nat) (fun u => True) (fun u => moT ca h u M0c) 6 1598 := by
  refine CtC.ofW (cc := cX5_init) (maxL := 2) (by decide) rfl (Nat.le_of_ble_eq_true rfl) ?_
  intro pr en s m be me c A ls Q H hx hb hml hts hown hev hP hD hA hS hl hin hX hret
  have hown : s.vm.findClass RX5 = some m.cls := hown
  have hl : lv_has ls 2 [(0, .ref h)] := hl
  have hP : va_P G vwCl [(h, .inr (5, [.null, .null, .int 0, .null, .null, .null, .int 0, .int 0, .null, .int 0]))] H := hP
  have hD : va_D A [(h, .inr (5, [.null, .null, .int 0, .null, .null, .null, .int 0, .int 0, .null, .int 0]))] := hD
  have in_wsX50 : ∀ w ∈ wsX50, w ∈ wsX5_init := fun _ h => List.mem_cons_of_mem _ (List.mem_append_right _ h)
  refine lv_aload_n hx hb dX5_init_0 rfl (lv_at hl 0 rfl) ?_
  refine W.objInit hx hb hown (hts (.methodLink RX5 1 objectInit) (List.mem_of_getElem? (i := 1) rfl)) (hts (.instanceMethod objectInit) (List.mem_of_getElem? (i := 2) rfl)) (hts (.code objectInit ⟨#[0xb1]⟩ 1 none) (List.mem_of_getElem? (i := 3) rfl)) rfl (by rw [hml]; exact hl.1) rfl dX5_init_1 (Nat.le_of_ble_eq_true rfl) (Nat.le_of_ble_eq_true rfl) ?_
  refine W.eq (g2 := F0 m 4 ls []) rfl ?_
  refine lv_aload_n hx hb dX5_init_4 rfl (lv_at hl 0 rfl) ?_
  refine lv_sipush (v := nI 164) hx hb dX5_init_5 (by decide) ?_
  refine b_newi hx hb (hts (.arrayClass .int) (List.mem_of_getElem? (i := 4) rfl)) hev hP hD hS hA (N := 164) (by decide) (by decide) (by decide) (Nat.le_of_ble_eq_true rfl) (Nat.le_of_ble_eq_true rfl) dX5_init_8 (fun q1 H hP hD hS => ?_)
  have hP : va_P G vwCl ([(h, .inr (5, [.null, .null, .int 0, .null, .null, .null, .int 0, .int 0, .null, .int 0])), (q1, .inl (ca 0, 164, .inl (fun _ => 0)))]) H := hP
  have hD : va_D A ([(h, .inr (5, [.null, .null, .int 0, .null, .null, .null, .int 0, .int 0, .null, .int 0])), (q1, .inl (ca 0, 164, .inl (fun _ => 0)))]) := hD
  refine W.widen (k := 1) (n := 164) (by omega) (by omega) ?_
  refine va_putF (D := G) (ci := 5) (v := .ref q1) (ty := tyX5 0) (C := RX5) (T := TX5) (N := 10) hx hb hts in_wsX50 tyX5 tyX5_ok nmX5 hown hev.1 hP hD hS 0 rfl rfl 0 (by decide) (hts (.fieldLink RX5 7 "PuddleMinistriesModel" "z" "[I") (List.mem_of_getElem? (i := 5) rfl)) (fun _ h9 => h9) rfl hin rfl (by decide +kernel) rfl rfl (Nat.le_of_ble_eq_true rfl) dX5_init_10 (fun H locs hP hD hS => ?_)
  have hP : va_P G vwCl ([(h, .inr (5, [.ref q1, .null, .int 0, .null, .null, .null, .int 0, .int 0, .null, .int 0])), (q1, .inl (ca 0, 164, .inl (fun _ => 0)))]) H := hP
  have hD : va_D A ([(h, .inr (5, [.ref q1, .null, .int 0, .null, .null, .null, .int 0, .int 0, .null, .int 0])), (q1, .inl (ca 0, 164, .inl (fun _ => 0)))]) := hD
  refine lv_aload_n hx hb dX5_init_13 rfl (lv_at hl 0 rfl) ?_
  refine lv_sipush (v := nI 984) hx hb dX5_init_14 (by decide) ?_
  refine b_newi hx hb (hts (.arrayClass .int) (List.mem_of_getElem? (i := 4) rfl)) hev hP hD hS hA (N := 984) (by decide) (by decide) (by decide) (Nat.le_of_ble_eq_true rfl) (Nat.le_of_ble_eq_true rfl) dX5_init_17 (fun q2 H hP hD hS => ?_)
  have hP : va_P G vwCl ([(h, .inr (5, [.ref q1, .null, .int 0, .null, .null, .null, .int 0, .int 0, .null, .int 0])), (q1, .inl (ca 0, 164, .inl (fun _ => 0))), (q2, .inl (ca 0, 984, .inl (fun _ => 0)))]) H := hP
  have hD : va_D A ([(h, .inr (5, [.ref q1, .null, .int 0, .null, .null, .null, .int 0, .int 0, .null, .int 0])), (q1, .inl (ca 0, 164, .inl (fun _ => 0))), (q2, .inl (ca 0, 984, .inl (fun _ => 0)))]) := hD
  refine W.widen (k := 2) (n := 1148) (by omega) (by omega) ?_
  refine va_putF (D := G) (ci := 5) (v := .ref q2) (ty := tyX5 1) (C := RX5) (T := TX5) (N := 10) hx hb hts in_wsX50 tyX5 tyX5_ok nmX5 hown hev.1 hP hD hS 0 rfl rfl 1 (by decide) (hts (.fieldLink RX5 13 "PuddleMinistriesModel" "past" "[I") (List.mem_of_getElem? (i := 6) rfl)) (fun _ h9 => h9) rfl hin rfl (by decide +kernel) rfl rfl (Nat.le_of_ble_eq_true rfl) dX5_init_19 (fun H locs hP hD hS => ?_)
  have hP : va_P G vwCl ([(h, .inr (5, [.ref q1, .ref q2, .int 0, .null, .null, .null, .int 0, .int 0, .null, .int 0])), (q1, .inl (ca 0, 164, .inl (fun _ => 0))), (q2, .inl (ca 0, 984, .inl (fun _ => 0)))]) H := hP
  have hD : va_D A ([(h, .inr (5, [.ref q1, .ref q2, .int 0, .null, .null, .null, .int 0, .int 0, .null, .int 0])), (q1, .inl (ca 0, 164, .inl (fun _ => 0))), (q2, .inl (ca 0, 984, .inl (fun _ => 0)))]) := hD
  refine lv_aload_n hx hb dX5_init_22 rfl (lv_at hl 0 rfl) ?_
  refine lv_sipush (v := nI 328) hx hb dX5_init_23 (by decide) ?_
  refine b_newi hx hb (hts (.arrayClass .int) (List.mem_of_getElem? (i := 4) rfl)) hev hP hD hS hA (N := 328) (by decide) (by decide) (by decide) (Nat.le_of_ble_eq_true rfl) (Nat.le_of_ble_eq_true rfl) dX5_init_26 (fun q3 H hP hD hS => ?_)
  have hP : va_P G vwCl ([(h, .inr (5, [.ref q1, .ref q2, .int 0, .null, .null, .null, .int 0, .int 0, .null, .int 0])), (q1, .inl (ca 0, 164, .inl (fun _ => 0))), (q2, .inl (ca 0, 984, .inl (fun _ => 0))), (q3, .inl (ca 0, 328, .inl (fun _ => 0)))]) H := hP
  have hD : va_D A ([(h, .inr (5, [.ref q1, .ref q2, .int 0, .null, .null, .null, .int 0, .int 0, .null, .int 0])), (q1, .inl (ca 0, 164, .inl (fun _ => 0))), (q2, .inl (ca 0, 984, .inl (fun _ => 0))), (q3, .inl (ca 0, 328, .inl (fun _ => 0)))]) := hD
  refine W.widen (k := 3) (n := 1476) (by omega) (by omega) ?_
  refine va_putF (D := G) (ci := 5) (v := .ref q3) (ty := tyX5 3) (C := RX5) (T := TX5) (N := 10) hx hb hts in_wsX50 tyX5 tyX5_ok nmX5 hown hev.1 hP hD hS 0 rfl rfl 3 (by decide) (hts (.fieldLink RX5 16 "PuddleMinistriesModel" "slots" "[I") (List.mem_of_getElem? (i := 7) rfl)) (fun _ h9 => h9) rfl hin rfl (by decide +kernel) rfl rfl (Nat.le_of_ble_eq_true rfl) dX5_init_28 (fun H locs hP hD hS => ?_)
  have hP : va_P G vwCl ([(h, .inr (5, [.ref q1, .ref q2, .int 0, .ref q3, .null, .null, .int 0, .int 0, .null, .int 0])), (q1, .inl (ca 0, 164, .inl (fun _ => 0))), (q2, .inl (ca 0, 984, .inl (fun _ => 0))), (q3, .inl (ca 0, 328, .inl (fun _ => 0)))]) H := hP
  have hD : va_D A ([(h, .inr (5, [.ref q1, .ref q2, .int 0, .ref q3, .null, .null, .int 0, .int 0, .null, .int 0])), (q1, .inl (ca 0, 164, .inl (fun _ => 0))), (q2, .inl (ca 0, 984, .inl (fun _ => 0))), (q3, .inl (ca 0, 328, .inl (fun _ => 0)))]) := hD
  refine lv_aload_n hx hb dX5_init_31 rfl (lv_at hl 0 rfl) ?_
  refine lv_iconst (v := nI 2) hx hb dX5_init_32 (by decide) ?_
  refine b_newz hx hb (hts (.arrayClass .boolean) (List.mem_of_getElem? (i := 8) rfl)) hev hP hD hS hA (N := 2) (by decide) (by decide) (by decide) (Nat.le_of_ble_eq_true rfl) (Nat.le_of_ble_eq_true rfl) dX5_init_33 (fun q4 H hP hD hS => ?_)
  have hP : va_P G vwCl ([(h, .inr (5, [.ref q1, .ref q2, .int 0, .ref q3, .null, .null, .int 0, .int 0, .null, .int 0])), (q1, .inl (ca 0, 164, .inl (fun _ => 0))), (q2, .inl (ca 0, 984, .inl (fun _ => 0))), (q3, .inl (ca 0, 328, .inl (fun _ => 0))), (q4, .inl (ca 2, 2, .inl (fun _ => 0)))]) H := hP
  have hD : va_D A ([(h, .inr (5, [.ref q1, .ref q2, .int 0, .ref q3, .null, .null, .int 0, .int 0, .null, .int 0])), (q1, .inl (ca 0, 164, .inl (fun _ => 0))), (q2, .inl (ca 0, 984, .inl (fun _ => 0))), (q3, .inl (ca 0, 328, .inl (fun _ => 0))), (q4, .inl (ca 2, 2, .inl (fun _ => 0)))]) := hD
  refine W.widen (k := 4) (n := 1478) (by omega) (by omega) ?_
  refine va_putF (D := G) (ci := 5) (v := .ref q4) (ty := tyX5 4) (C := RX5) (T := TX5) (N := 10) hx hb hts in_wsX50 tyX5 tyX5_ok nmX5 hown hev.1 hP hD hS 0 rfl rfl 4 (by decide) (hts (.fieldLink RX5 19 "PuddleMinistriesModel" "isSaved" "[Z") (List.mem_of_getElem? (i := 9) rfl)) (fun _ h9 => h9) rfl hin rfl (by decide +kernel) rfl rfl (Nat.le_of_ble_eq_true rfl) dX5_init_35 (fun H locs hP hD hS => ?_)
  have hP : va_P G vwCl ([(h, .inr (5, [.ref q1, .ref q2, .int 0, .ref q3, .ref q4, .null, .int 0, .int 0, .null, .int 0])), (q1, .inl (ca 0, 164, .inl (fun _ => 0))), (q2, .inl (ca 0, 984, .inl (fun _ => 0))), (q3, .inl (ca 0, 328, .inl (fun _ => 0))), (q4, .inl (ca 2, 2, .inl (fun _ => 0)))]) H := hP
  have hD : va_D A ([(h, .inr (5, [.ref q1, .ref q2, .int 0, .ref q3, .ref q4, .null, .int 0, .int 0, .null, .int 0])), (q1, .inl (ca 0, 164, .inl (fun _ => 0))), (q2, .inl (ca 0, 984, .inl (fun _ => 0))), (q3, .inl (ca 0, 328, .inl (fun _ => 0))), (q4, .inl (ca 2, 2, .inl (fun _ => 0)))]) := hD
  refine lv_aload_n hx hb dX5_init_38 rfl (lv_at hl 0 rfl) ?_
  refine lv_bipush (v := nI 60) hx hb dX5_init_39 (by decide) ?_
  refine b_newi hx hb (hts (.arrayClass .int) (List.mem_of_getElem? (i := 4) rfl)) hev hP hD hS hA (N := 60) (by decide) (by decide) (by decide) (Nat.le_of_ble_eq_true rfl) (Nat.le_of_ble_eq_true rfl) dX5_init_41 (fun q5 H hP hD hS => ?_)
  have hP : va_P G vwCl ([(h, .inr (5, [.ref q1, .ref q2, .int 0, .ref q3, .ref q4, .null, .int 0, .int 0, .null, .int 0])), (q1, .inl (ca 0, 164, .inl (fun _ => 0))), (q2, .inl (ca 0, 984, .inl (fun _ => 0))), (q3, .inl (ca 0, 328, .inl (fun _ => 0))), (q4, .inl (ca 2, 2, .inl (fun _ => 0))), (q5, .inl (ca 0, 60, .inl (fun _ => 0)))]) H := hP
  have hD : va_D A ([(h, .inr (5, [.ref q1, .ref q2, .int 0, .ref q3, .ref q4, .null, .int 0, .int 0, .null, .int 0])), (q1, .inl (ca 0, 164, .inl (fun _ => 0))), (q2, .inl (ca 0, 984, .inl (fun _ => 0))), (q3, .inl (ca 0, 328, .inl (fun _ => 0))), (q4, .inl (ca 2, 2, .inl (fun _ => 0))), (q5, .inl (ca 0, 60, .inl (fun _ => 0)))]) := hD
  refine W.widen (k := 5) (n := 1538) (by omega) (by omega) ?_
  refine va_putF (D := G) (ci := 5) (v := .ref q5) (ty := tyX5 5) (C := RX5) (T := TX5) (N := 10) hx hb hts in_wsX50 tyX5 tyX5_ok nmX5 hown hev.1 hP hD hS 0 rfl rfl 5 (by decide) (hts (.fieldLink RX5 23 "PuddleMinistriesModel" "pad" "[I") (List.mem_of_getElem? (i := 10) rfl)) (fun _ h9 => h9) rfl hin rfl (by decide +kernel) rfl rfl (Nat.le_of_ble_eq_true rfl) dX5_init_43 (fun H locs hP hD hS => ?_)
  have hP : va_P G vwCl ([(h, .inr (5, [.ref q1, .ref q2, .int 0, .ref q3, .ref q4, .ref q5, .int 0, .int 0, .null, .int 0])), (q1, .inl (ca 0, 164, .inl (fun _ => 0))), (q2, .inl (ca 0, 984, .inl (fun _ => 0))), (q3, .inl (ca 0, 328, .inl (fun _ => 0))), (q4, .inl (ca 2, 2, .inl (fun _ => 0))), (q5, .inl (ca 0, 60, .inl (fun _ => 0)))]) H := hP
  have hD : va_D A ([(h, .inr (5, [.ref q1, .ref q2, .int 0, .ref q3, .ref q4, .ref q5, .int 0, .int 0, .null, .int 0])), (q1, .inl (ca 0, 164, .inl (fun _ => 0))), (q2, .inl (ca 0, 984, .inl (fun _ => 0))), (q3, .inl (ca 0, 328, .inl (fun _ => 0))), (q4, .inl (ca 2, 2, .inl (fun _ => 0))), (q5, .inl (ca 0, 60, .inl (fun _ => 0)))]) := hD
  refine lv_aload_n hx hb dX5_init_46 rfl (lv_at hl 0 rfl) ?_
  refine lv_bipush (v := nI 60) hx hb dX5_init_47 (by decide) ?_
  refine b_newi hx hb (hts (.arrayClass .int) (List.mem_of_getElem? (i := 4) rfl)) hev hP hD hS hA (N := 60) (by decide) (by decide) (by decide) (Nat.le_of_ble_eq_true rfl) (Nat.le_of_ble_eq_true rfl) dX5_init_49 (fun q6 H hP hD hS => ?_)
  have hP : va_P G vwCl ([(h, .inr (5, [.ref q1, .ref q2, .int 0, .ref q3, .ref q4, .ref q5, .int 0, .int 0, .null, .int 0])), (q1, .inl (ca 0, 164, .inl (fun _ => 0))), (q2, .inl (ca 0, 984, .inl (fun _ => 0))), (q3, .inl (ca 0, 328, .inl (fun _ => 0))), (q4, .inl (ca 2, 2, .inl (fun _ => 0))), (q5, .inl (ca 0, 60, .inl (fun _ => 0))), (q6, .inl (ca 0, 60, .inl (fun _ => 0)))]) H := hP
  have hD : va_D A ([(h, .inr (5, [.ref q1, .ref q2, .int 0, .ref q3, .ref q4, .ref q5, .int 0, .int 0, .null, .int 0])), (q1, .inl (ca 0, 164, .inl (fun _ => 0))), (q2, .inl (ca 0, 984, .inl (fun _ => 0))), (q3, .inl (ca 0, 328, .inl (fun _ => 0))), (q4, .inl (ca 2, 2, .inl (fun _ => 0))), (q5, .inl (ca 0, 60, .inl (fun _ => 0))), (q6, .inl (ca 0, 60, .inl (fun _ => 0)))]) := hD
  refine W.widen (k := 6) (n := 1598) (by omega) (by omega) ?_
  refine va_putF (D := G) (ci := 5) (v := .ref q6) (ty := tyX5 8) (C := RX5) (T := TX5) (N := 10) hx hb hts in_wsX50 tyX5 tyX5_ok nmX5 hown hev.1 hP hD hS 0 rfl rfl 8 (by decide) (hts (.fieldLink RX5 26 "PuddleMinistriesModel" "told" "[I") (List.mem_of_getElem? (i := 11) rfl)) (fun _ h9 => h9) rfl hin rfl (by decide +kernel) rfl rfl (Nat.le_of_ble_eq_true rfl) dX5_init_51 (fun H locs hP hD hS => ?_)
  have hP : va_P G vwCl ([(h, .inr (5, [.ref q1, .ref q2, .int 0, .ref q3, .ref q4, .ref q5, .int 0, .int 0, .ref q6, .int 0])), (q1, .inl (ca 0, 164, .inl (fun _ => 0))), (q2, .inl (ca 0, 984, .inl (fun _ => 0))), (q3, .inl (ca 0, 328, .inl (fun _ => 0))), (q4, .inl (ca 2, 2, .inl (fun _ => 0))), (q5, .inl (ca 0, 60, .inl (fun _ => 0))), (q6, .inl (ca 0, 60, .inl (fun _ => 0)))]) H := hP
  have hD : va_D A ([(h, .inr (5, [.ref q1, .ref q2, .int 0, .ref q3, .ref q4, .ref q5, .int 0, .int 0, .ref q6, .int 0])), (q1, .inl (ca 0, 164, .inl (fun _ => 0))), (q2, .inl (ca 0, 984, .inl (fun _ => 0))), (q3, .inl (ca 0, 328, .inl (fun _ => 0))), (q4, .inl (ca 2, 2, .inl (fun _ => 0))), (q5, .inl (ca 0, 60, .inl (fun _ => 0))), (q6, .inl (ca 0, 60, .inl (fun _ => 0)))]) := hD
  refine lv_aload_n hx hb dX5_init_54 rfl (lv_at hl 0 rfl) ?_
  refine va_get (D := G) (ci := 5) (v := .ref q1) (C := RX5) (T := TX5) (N := 10) hx hb hts in_wsX50 hown hev.1 hP 0 rfl rfl 0 (by decide) (hts (.fieldLink RX5 7 "PuddleMinistriesModel" "z" "[I") (List.mem_of_getElem? (i := 5) rfl)) (fun _ h9 => h9) rfl dX5_init_55 ?_
  refine lv_iconst (v := nI 0) hx hb dX5_init_58 (by decide) ?_
  refine lv_iconst (v := 3) hx hb dX5_init_59 (by decide) ?_
  refine b_iast hx hb hev.1 hP hD hS 1 rfl rfl (j := 0) (by omega) (by decide) dX5_init_60 (fun H locs hP hD hS => ?_)
  have hP : va_P G vwCl ([(h, .inr (5, [.ref q1, .ref q2, .int 0, .ref q3, .ref q4, .ref q5, .int 0, .int 0, .ref q6, .int 0])), (q1, .inl (ca 0, 164, .inl (upd (fun _ => 0) 0 3))), (q2, .inl (ca 0, 984, .inl (fun _ => 0))), (q3, .inl (ca 0, 328, .inl (fun _ => 0))), (q4, .inl (ca 2, 2, .inl (fun _ => 0))), (q5, .inl (ca 0, 60, .inl (fun _ => 0))), (q6, .inl (ca 0, 60, .inl (fun _ => 0)))]) H := hP
  have hD : va_D A ([(h, .inr (5, [.ref q1, .ref q2, .int 0, .ref q3, .ref q4, .ref q5, .int 0, .int 0, .ref q6, .int 0])), (q1, .inl (ca 0, 164, .inl (upd (fun _ => 0) 0 3))), (q2, .inl (ca 0, 984, .inl (fun _ => 0))), (q3, .inl (ca 0, 328, .inl (fun _ => 0))), (q4, .inl (ca 2, 2, .inl (fun _ => 0))), (q5, .inl (ca 0, 60, .inl (fun _ => 0))), (q6, .inl (ca 0, 60, .inl (fun _ => 0)))]) := hD
  refine lv_aload_n hx hb dX5_init_61 rfl (lv_at hl 0 rfl) ?_
  refine va_get (D := G) (ci := 5) (v := .ref q1) (C := RX5) (T := TX5) (N := 10) hx hb hts in_wsX50 hown hev.1 hP 0 rfl rfl 0 (by decide) (hts (.fieldLink RX5 7 "PuddleMinistriesModel" "z" "[I") (List.mem_of_getElem? (i := 5) rfl)) (fun _ h9 => h9) rfl dX5_init_62 ?_
  refine lv_iconst (v := nI 1) hx hb dX5_init_65 (by decide) ?_
  refine lv_iconst (v := 2) hx hb dX5_init_66 (by decide) ?_
  refine b_iast hx hb hev.1 hP hD hS 1 rfl rfl (j := 1) (by omega) (by decide) dX5_init_67 (fun H locs hP hD hS => ?_)
  have hP : va_P G vwCl ([(h, .inr (5, [.ref q1, .ref q2, .int 0, .ref q3, .ref q4, .ref q5, .int 0, .int 0, .ref q6, .int 0])), (q1, .inl (ca 0, 164, .inl (upd (upd (fun _ => 0) 0 3) 1 2))), (q2, .inl (ca 0, 984, .inl (fun _ => 0))), (q3, .inl (ca 0, 328, .inl (fun _ => 0))), (q4, .inl (ca 2, 2, .inl (fun _ => 0))), (q5, .inl (ca 0, 60, .inl (fun _ => 0))), (q6, .inl (ca 0, 60, .inl (fun _ => 0)))]) H := hP
  have hD : va_D A ([(h, .inr (5, [.ref q1, .ref q2, .int 0, .ref q3, .ref q4, .ref q5, .int 0, .int 0, .ref q6, .int 0])), (q1, .inl (ca 0, 164, .inl (upd (upd (fun _ => 0) 0 3) 1 2))), (q2, .inl (ca 0, 984, .inl (fun _ => 0))), (q3, .inl (ca 0, 328, .inl (fun _ => 0))), (q4, .inl (ca 2, 2, .inl (fun _ => 0))), (q5, .inl (ca 0, 60, .inl (fun _ => 0))), (q6, .inl (ca 0, 60, .inl (fun _ => 0)))]) := hD
  refine lv_aload_n hx hb dX5_init_68 rfl (lv_at hl 0 rfl) ?_
  refine va_get (D := G) (ci := 5) (v := .ref q1) (C := RX5) (T := TX5) (N := 10) hx hb hts in_wsX50 hown hev.1 hP 0 rfl rfl 0 (by decide) (hts (.fieldLink RX5 7 "PuddleMinistriesModel" "z" "[I") (List.mem_of_getElem? (i := 5) rfl)) (fun _ h9 => h9) rfl dX5_init_69 ?_
  refine lv_iconst (v := nI 2) hx hb dX5_init_72 (by decide) ?_
  refine lv_bipush (v := 15) hx hb dX5_init_73 (by decide) ?_
  refine b_iast hx hb hev.1 hP hD hS 1 rfl rfl (j := 2) (by omega) (by decide) dX5_init_75 (fun H locs hP hD hS => ?_)
  have hP : va_P G vwCl ([(h, .inr (5, [.ref q1, .ref q2, .int 0, .ref q3, .ref q4, .ref q5, .int 0, .int 0, .ref q6, .int 0])), (q1, .inl (ca 0, 164, .inl (upd (upd (upd (fun _ => 0) 0 3) 1 2) 2 15))), (q2, .inl (ca 0, 984, .inl (fun _ => 0))), (q3, .inl (ca 0, 328, .inl (fun _ => 0))), (q4, .inl (ca 2, 2, .inl (fun _ => 0))), (q5, .inl (ca 0, 60, .inl (fun _ => 0))), (q6, .inl (ca 0, 60, .inl (fun _ => 0)))]) H := hP
  have hD : va_D A ([(h, .inr (5, [.ref q1, .ref q2, .int 0, .ref q3, .ref q4, .ref q5, .int 0, .int 0, .ref q6, .int 0])), (q1, .inl (ca 0, 164, .inl (upd (upd (upd (fun _ => 0) 0 3) 1 2) 2 15))), (q2, .inl (ca 0, 984, .inl (fun _ => 0))), (q3, .inl (ca 0, 328, .inl (fun _ => 0))), (q4, .inl (ca 2, 2, .inl (fun _ => 0))), (q5, .inl (ca 0, 60, .inl (fun _ => 0))), (q6, .inl (ca 0, 60, .inl (fun _ => 0)))]) := hD
  refine lv_aload_n hx hb dX5_init_76 rfl (lv_at hl 0 rfl) ?_
  refine va_get (D := G) (ci := 5) (v := .ref q1) (C := RX5) (T := TX5) (N := 10) hx hb hts in_wsX50 hown hev.1 hP 0 rfl rfl 0 (by decide) (hts (.fieldLink RX5 7 "PuddleMinistriesModel" "z" "[I") (List.mem_of_getElem? (i := 5) rfl)) (fun _ h9 => h9) rfl dX5_init_77 ?_
  refine lv_iconst (v := nI 3) hx hb dX5_init_80 (by decide) ?_
  refine lv_iconst (v := 5) hx hb dX5_init_81 (by decide) ?_
  refine b_iast hx hb hev.1 hP hD hS 1 rfl rfl (j := 3) (by omega) (by decide) dX5_init_82 (fun H locs hP hD hS => ?_)
  have hP : va_P G vwCl ([(h, .inr (5, [.ref q1, .ref q2, .int 0, .ref q3, .ref q4, .ref q5, .int 0, .int 0, .ref q6, .int 0])), (q1, .inl (ca 0, 164, .inl (upd (upd (upd (upd (fun _ => 0) 0 3) 1 2) 2 15) 3 5))), (q2, .inl (ca 0, 984, .inl (fun _ => 0))), (q3, .inl (ca 0, 328, .inl (fun _ => 0))), (q4, .inl (ca 2, 2, .inl (fun _ => 0))), (q5, .inl (ca 0, 60, .inl (fun _ => 0))), (q6, .inl (ca 0, 60, .inl (fun _ => 0)))]) H := hP
  have hD : va_D A ([(h, .inr (5, [.ref q1, .ref q2, .int 0, .ref q3, .ref q4, .ref q5, .int 0, .int 0, .ref q6, .int 0])), (q1, .inl (ca 0, 164, .inl (upd (upd (upd (upd (fun _ => 0) 0 3) 1 2) 2 15) 3 5))), (q2, .inl (ca 0, 984, .inl (fun _ => 0))), (q3, .inl (ca 0, 328, .inl (fun _ => 0))), (q4, .inl (ca 2, 2, .inl (fun _ => 0))), (q5, .inl (ca 0, 60, .inl (fun _ => 0))), (q6, .inl (ca 0, 60, .inl (fun _ => 0)))]) := hD
  have hP : va_P G vwCl (moT ca h (fun j => [q1, q2, q3, q4, q5, q6].getD j 0) (M0L 0)) H := hP
  have hD : va_D A (moT ca h (fun j => [q1, q2, q3, q4, q5, q6].getD j 0) (M0L 0)) := hD
  refine lv_iconst (v := nI 0) hx hb dX5_init_83 (by decide) ?_
  refine lv_istore_n (lv' := [(1, .int (nI 0)), (0, .ref h)]) hx hb dX5_init_84 rfl hl (by decide) rfl (fun ls hl => ?_)
  have loop_85 : ∀ (fu i : Nat), i + fu = 12 → ∀ (H : Heap) (locs : List Loc) (ls : Array Slot), va_P G vwCl (moT ca h (fun j => [q1, q2, q3, q4, q5, q6].getD j 0) (M0L i)) H → va_D A (moT ca h (fun j => [q1, q2, q3, q4, q5, q6].getD j 0) (M0L i)) → va_S A s.heap H locs → lv_has ls 2 [(0, .ref h), (1, .int (nI i))] → W pr l en ({ frames := 1, cells := 6, slots := 1598, locals := 23 } : Room) s m ([.ref h] : List Value).toArray be me c H locs 6 1598 Q (F0 m 85 ls []) := by
    intro fu
    induction fu with
    | zero =>
      intro i hi H locs ls hP hD hS hl
      obtain rfl : i = 12 := by omega
      refine lv_iload_n hx hb dX5_init_85 rfl (lv_at hl 1 rfl) ?_
      refine lv_bipush (v := nI 12) hx hb dX5_init_86 (by decide) ?_
      refine lv_icmp_ge (tgt := 105) hx hb dX5_init_88 (by decide) (fun c_1 => ?_) (fun c_1 => ?_)
      · skip
        exact hret (fun j => [q1, q2, q3, q4, q5, q6].getD j 0) trivial _ _ _ _ hP hD hS dX5_init_105
      · skip
        exact absurd (nI_le (by omega) (by omega)) c_1
    | succ fu ih =>
      intro i hi H locs ls hP hD hS hl
      have hlt : i < 12 := by omega
      refine lv_iload_n hx hb dX5_init_85 rfl (lv_at hl 1 rfl) ?_
      refine lv_bipush (v := nI 12) hx hb dX5_init_86 (by decide) ?_
      refine lv_icmp_ge (tgt := 105) hx hb dX5_init_88 (by decide) (fun c_2 => ?_) (fun c_2 => ?_)
      · skip
        exact absurd c_2 (nI_ge (by omega) (by omega))
      · skip
        refine lv_aload_n hx hb dX5_init_91 rfl (lv_at hl 0 rfl) ?_
        refine lv_iload_n hx hb dX5_init_92 rfl (lv_at hl 1 rfl) ?_
        refine lv_iconst (v := nI 0) hx hb dX5_init_93 (by decide) ?_
        refine lv_bipush (v := 20) hx hb dX5_init_94 (by decide) ?_
        refine goVw (va_runV (As := [.int (nI i), .int (nI 0), .int 20]) (rest := []) ⟨hx, hb, hml, hown, hts⟩ (CtV.use (c_X5_lay l G ca h (fun j => [q1, q2, q3, q4, q5, q6].getD j 0) (M0L i) i 0 20 (by omega) (by omega)) H.size) (cwV 3 hts gX5_init_X5_lay rfl rfl rfl (by decide +kernel) ⟨Nat.le_of_ble_eq_true rfl, Nat.le_of_ble_eq_true rfl⟩) (pcW_V hev hP hD (q0 := 0) rfl rfl rfl) rfl rfl hl.1 rfl (lv_room (Nat.le_of_ble_eq_true rfl)) dX5_init_96 ⟨Nat.le_of_ble_eq_true rfl, Nat.le_of_ble_eq_true rfl⟩) hD hS hA moF (fun H locs hP hD hS => ?_)
        refine lv_iinc (v := nI (i + 1)) (lv' := [(1, .int (nI (i + 1))), (0, .ref h)]) hx hb dX5_init_99 hl (k := 1) rfl (nI_1 _) (by decide) rfl (fun ls hl => ?_)
        refine lv_goto (tgt := 85) hx hb dX5_init_102 (by decide) ?_
        exact ih (i + 1) (by omega) _ _ _ (by rw [show (M0L (i + 1)) = (upd ((m_z (M0L i))) (8 + 5 * i + 0) 20, m_past (M0L i), m_states (M0L i), m_slots (M0L i), m_isSaved (M0L i), m_pad (M0L i), m_typed (M0L i), m_spot (M0L i), m_told (M0L i), m_toldMany (M0L i)) from by rfl]; exact hP) (D_of hD moF) hS (lv_sub hl [1, 0] rfl)
  exact loop_85 12 0 (by omega) _ _ _ hP (D_of hD moF) hS (lv_sub hl [1, 0] rfl)
