set_option maxHeartbeats 4000000 in
set_option maxRecDepth 100000 in
theorem c_X3_rain (l : Launch) (G : va_G) (ca : Nat → ClassId) (h : Nat) (a : Nat → Nat) (S : SS) (am : Int32) (n12 : Nat) (h12 : n12 = 12) : CtV l yX3_rain wsX3_rain ({ frames := 2, cells := 0, slots := 0, locals := 42 }) [.ref h, .int am] G ca (stT ca h a S) (stT ca h a (s_se S, s_br S, (rnL S am n12).1, s_cr S, s_sh S, s_ow S, s_pa S, s_cb S, s_pd S, s_fz S, s_dk S, s_dy S, (rnL S am n12).2.1, s_dr S, (rnL S am n12).2.2.1 + (rnL S am n12).2.2.2)) := by
  refine CtV.ofW (cc := cX3_rain) (maxL := 5) (by decide) rfl (Nat.le_of_ble_eq_true rfl) ?_
  intro pr en s m be me c A ls Q H hx hb hml hts hown hev hP hD hA hS hl hret
  have hown : s.vm.findClass RX3 = some m.cls := hown
  have hl : lv_has ls 5 [(0, .ref h), (1, .int am)] := hl
  have in_wsX30 : ∀ w ∈ wsX30, w ∈ wsX3_rain := fun _ h => List.mem_cons_of_mem _ (List.mem_append_right _ h)
  refine lv_iconst (v := 0) hx hb dX3_rain_0 (by decide) ?_
  refine lv_istore_n (lv' := [(2, .int 0), (0, .ref h), (1, .int am)]) hx hb dX3_rain_1 rfl hl (by decide) rfl (fun ls hl => ?_)
  refine lv_iconst (v := nI 0) hx hb dX3_rain_2 (by decide) ?_
  refine lv_istore_n (lv' := [(3, .int (nI 0)), (2, .int 0), (0, .ref h), (1, .int am)]) hx hb dX3_rain_3 rfl hl (by decide) rfl (fun ls hl => ?_)
  have loop_4 : ∀ (n i : Nat), i + n = n12 → ∀ (H : Heap) (locs : List Loc) (ls : Array Slot), va_P G vwCl (stT ca h a (s_se S, s_br S, (rnL S am i).1, s_cr S, s_sh S, s_ow S, s_pa S, s_cb S, s_pd S, s_fz S, s_dk S, s_dy S, (rnL S am i).2.1, s_dr S, (rnL S am i).2.2.1)) H → va_D A (stT ca h a (s_se S, s_br S, (rnL S am i).1, s_cr S, s_sh S, s_ow S, s_pa S, s_cb S, s_pd S, s_fz S, s_dk S, s_dy S, (rnL S am i).2.1, s_dr S, (rnL S am i).2.2.1)) → va_S A s.heap H locs → lv_has ls 5 [(0, .ref h), (1, .int am), (2, .int ((rnL S am i).2.2.2)), (3, .int (nI i))] → W pr l en ({ frames := 2, cells := 0, slots := 0, locals := 42 } : Room) s m ([.ref h, .int am] : List Value).toArray be me c H locs 0 0 Q (F0 m 4 ls []) := by
    intro n
    induction n with
    | zero =>
      intro i hi H locs ls hP hD hS hl
      obtain rfl : n12 = i := by omega
      refine lv_iload_n hx hb dX3_rain_4 rfl (lv_at hl 3 rfl) ?_
      refine lv_bipush (v := nI 12) hx hb dX3_rain_5 (by decide) ?_
      refine lv_icmp_ge (tgt := 88) hx hb dX3_rain_7 (by decide) (fun c_1 => ?_) (fun c_1 => ?_)
      · skip
        refine lv_aload_n hx hb dX3_rain_88 rfl (lv_at hl 0 rfl) ?_
        refine lv_dup hx hb dX3_rain_89 rfl ?_
        refine va_get (D := G) (ci := 3) (v := .int ((rnL S am n12).2.2.1)) (C := RX3) (T := TX3) (N := 15) hx hb hts in_wsX30 hown hev.1 hP 0 rfl rfl 14 (by decide) (hts (.fieldLink RX3 62 "PuddleMinistries$Street" "drained" "I") (List.mem_of_getElem? (i := 1) rfl)) (fun _ h9 => h9) rfl dX3_rain_90 ?_
        refine lv_iload_n hx hb dX3_rain_93 rfl (lv_at hl 2 rfl) ?_
        refine lv_iadd hx hb dX3_rain_94 ?_
        refine va_put (D := G) (ci := 3) (v := .int (((rnL S am n12).2.2.1) + ((rnL S am n12).2.2.2))) (ty := .int) (C := RX3) (T := TX3) (N := 15) hx hb hts in_wsX30 tyX3 tyX3_ok nmX3 hown hev.1 hP hD hS 0 rfl rfl 14 (by decide) (hts (.fieldLink RX3 62 "PuddleMinistries$Street" "drained" "I") (List.mem_of_getElem? (i := 1) rfl)) (fun _ h9 => h9) rfl (by decide +kernel) rfl rfl (Nat.le_of_ble_eq_true rfl) dX3_rain_95 (fun H locs hP hD hS => ?_)
        have hP : va_P G vwCl (stT ca h a (s_se S, s_br S, (rnL S am n12).1, s_cr S, s_sh S, s_ow S, s_pa S, s_cb S, s_pd S, s_fz S, s_dk S, s_dy S, (rnL S am n12).2.1, s_dr S, ((rnL S am n12).2.2.1) + ((rnL S am n12).2.2.2))) H := hP
        have hD : va_D A (stT ca h a (s_se S, s_br S, (rnL S am n12).1, s_cr S, s_sh S, s_ow S, s_pa S, s_cb S, s_pd S, s_fz S, s_dk S, s_dy S, (rnL S am n12).2.1, s_dr S, ((rnL S am n12).2.2.1) + ((rnL S am n12).2.2.2))) := hD
        exact hret _ _ _ _ hP hS dX3_rain_98
      · skip
        exact absurd (nI_le (by omega) (by omega)) c_1
    | succ n ih =>
      intro i hi H locs ls hP hD hS hl
      have hlt : i < n12 := by omega
      refine lv_iload_n hx hb dX3_rain_4 rfl (lv_at hl 3 rfl) ?_
      refine lv_bipush (v := nI 12) hx hb dX3_rain_5 (by decide) ?_
      refine lv_icmp_ge (tgt := 88) hx hb dX3_rain_7 (by decide) (fun c_2 => ?_) (fun c_2 => ?_)
      · skip
        exact absurd c_2 (nI_ge (by omega) (by omega))
      · skip
        refine lv_aload_n hx hb dX3_rain_10 rfl (lv_at hl 0 rfl) ?_
        refine lv_iload_n hx hb dX3_rain_11 rfl (lv_at hl 3 rfl) ?_
        refine goIw (va_runV (As := [.int (nI i)]) (rest := []) ⟨hx, hb, hml, hown, hts⟩ (CtI.use (c_X3_isFrozen l G ca h a (s_se S, s_br S, (rnL S am i).1, s_cr S, s_sh S, s_ow S, s_pa S, s_cb S, s_pd S, s_fz S, s_dk S, s_dy S, (rnL S am i).2.1, s_dr S, (rnL S am i).2.2.1) i) H.size) (cwV 1 hts gX3_rain_X3_isFrozen rfl rfl rfl (by decide +kernel) ⟨Nat.le_of_ble_eq_true rfl, Nat.le_of_ble_eq_true rfl⟩) (pcW_V hev hP hD (q0 := 0) rfl rfl rfl) rfl rfl hl.1 rfl (lv_room (Nat.le_of_ble_eq_true rfl)) dX3_rain_12 ⟨Nat.zero_le _, Nat.zero_le _⟩) hD hS hA stF (fun H locs hP hD hS => ?_)
        refine lv_eqi (y := bt1 (s_fz S) i) rfl ?_
        refine lv_if_eq (tgt := 33) hx hb dX3_rain_15 (by decide) (fun c_3 => ?_) (fun c_3 => ?_)
        · skip
          refine lv_aload_n hx hb dX3_rain_33 rfl (lv_at hl 0 rfl) ?_
          refine lv_dup hx hb dX3_rain_34 rfl ?_
          refine va_get (D := G) (ci := 3) (v := .int ((rnL S am i).2.1)) (C := RX3) (T := TX3) (N := 15) hx hb hts in_wsX30 hown hev.1 hP 0 rfl rfl 12 (by decide) (hts (.fieldLink RX3 56 "PuddleMinistries$Street" "fell" "I") (List.mem_of_getElem? (i := 2) rfl)) (fun _ h9 => h9) rfl dX3_rain_35 ?_
          refine lv_iload_n hx hb dX3_rain_38 rfl (lv_at hl 1 rfl) ?_
          refine lv_iadd hx hb dX3_rain_39 ?_
          refine va_put (D := G) (ci := 3) (v := .int (((rnL S am i).2.1) + am)) (ty := .int) (C := RX3) (T := TX3) (N := 15) hx hb hts in_wsX30 tyX3 tyX3_ok nmX3 hown hev.1 hP hD hS 0 rfl rfl 12 (by decide) (hts (.fieldLink RX3 56 "PuddleMinistries$Street" "fell" "I") (List.mem_of_getElem? (i := 2) rfl)) (fun _ h9 => h9) rfl (by decide +kernel) rfl rfl (Nat.le_of_ble_eq_true rfl) dX3_rain_40 (fun H locs hP hD hS => ?_)
          have hP : va_P G vwCl (stT ca h a (s_se S, s_br S, (rnL S am i).1, s_cr S, s_sh S, s_ow S, s_pa S, s_cb S, s_pd S, s_fz S, s_dk S, s_dy S, ((rnL S am i).2.1) + am, s_dr S, (rnL S am i).2.2.1)) H := hP
          have hD : va_D A (stT ca h a (s_se S, s_br S, (rnL S am i).1, s_cr S, s_sh S, s_ow S, s_pa S, s_cb S, s_pd S, s_fz S, s_dk S, s_dy S, ((rnL S am i).2.1) + am, s_dr S, (rnL S am i).2.2.1)) := hD
          refine lv_aload_n hx hb dX3_rain_43 rfl (lv_at hl 0 rfl) ?_
          refine va_get (D := G) (ci := 3) (v := .ref (a 2)) (C := RX3) (T := TX3) (N := 15) hx hb hts in_wsX30 hown hev.1 hP 0 rfl rfl 2 (by decide) (hts (.fieldLink RX3 18 "PuddleMinistries$Street" "waters" "[I") (List.mem_of_getElem? (i := 3) rfl)) (fun _ h9 => h9) rfl dX3_rain_44 ?_
          refine lv_iload_n hx hb dX3_rain_47 rfl (lv_at hl 3 rfl) ?_
          refine b_iald hx hb hev.1 hP 3 rfl rfl (j := i) (by omega) (by decide) dX3_rain_48 ?_
          refine lv_iload_n hx hb dX3_rain_49 rfl (lv_at hl 1 rfl) ?_
          refine lv_iadd hx hb dX3_rain_50 ?_
          refine lv_iload_n hx hb dX3_rain_51 rfl (lv_at hl 2 rfl) ?_
          refine lv_iadd hx hb dX3_rain_52 ?_
          refine lv_istore (lv' := [(4, .int (((((rnL S am i).1) i) + am) + ((rnL S am i).2.2.2))), (0, .ref h), (1, .int am), (2, .int ((rnL S am i).2.2.2)), (3, .int (nI i))]) hx hb dX3_rain_53 hl (by decide) rfl (fun ls hl => ?_)
          refine lv_aload_n hx hb dX3_rain_55 rfl (lv_at hl 1 rfl) ?_
          refine va_get (D := G) (ci := 3) (v := .ref (a 2)) (C := RX3) (T := TX3) (N := 15) hx hb hts in_wsX30 hown hev.1 hP 0 rfl rfl 2 (by decide) (hts (.fieldLink RX3 18 "PuddleMinistries$Street" "waters" "[I") (List.mem_of_getElem? (i := 3) rfl)) (fun _ h9 => h9) rfl dX3_rain_56 ?_
          refine lv_iload_n hx hb dX3_rain_59 rfl (lv_at hl 4 rfl) ?_
          refine lv_iload hx hb dX3_rain_60 (lv_at hl 0 rfl) ?_
          refine lv_aload_n hx hb dX3_rain_62 rfl (lv_at hl 1 rfl) ?_
          refine va_get (D := G) (ci := 3) (v := .ref (a 1)) (C := RX3) (T := TX3) (N := 15) hx hb hts in_wsX30 hown hev.1 hP 0 rfl rfl 1 (by decide) (hts (.fieldLink RX3 15 "PuddleMinistries$Street" "brims" "[I") (List.mem_of_getElem? (i := 4) rfl)) (fun _ h9 => h9) rfl dX3_rain_63 ?_
          refine lv_iload_n hx hb dX3_rain_66 rfl (lv_at hl 4 rfl) ?_
          refine b_iald hx hb hev.1 hP 2 rfl rfl (j := i) (by omega) (by decide) dX3_rain_67 ?_
          refine va_mmin hx hb (hml.trans hl.1.symm) hown (hts (.methodLink RX3 86 Lib.Math.min.name) (List.mem_of_getElem? (i := 5) rfl)) (hts (.static Lib.Math.min.name) (List.mem_of_getElem? (i := 6) rfl)) (hts (.initialized "java/lang/Math") (List.mem_of_getElem? (i := 7) rfl)) (hts (.code Lib.Math.min.name Lib.Math.min.code 2 (some .int)) (List.mem_of_getElem? (i := 8) rfl)) (Nat.le_of_ble_eq_true rfl) (Nat.le_of_ble_eq_true rfl) (Nat.zero_le _) (Nat.zero_le _) dX3_rain_68 ?_
          refine b_iast hx hb hev.1 hP hD hS 3 rfl rfl (j := i) (by omega) (by decide) dX3_rain_71 (fun H locs hP hD hS => ?_)
          have hP : va_P G vwCl (stT ca h a (s_se S, s_br S, upd ((rnL S am i).1) i (if ((s_br S) i) < (((((rnL S am i).1) i) + am) + ((rnL S am i).2.2.2)) then ((s_br S) i) else (((((rnL S am i).1) i) + am) + ((rnL S am i).2.2.2))), s_cr S, s_sh S, s_ow S, s_pa S, s_cb S, s_pd S, s_fz S, s_dk S, s_dy S, ((rnL S am i).2.1) + am, s_dr S, (rnL S am i).2.2.1)) H := hP
          have hD : va_D A (stT ca h a (s_se S, s_br S, upd ((rnL S am i).1) i (if ((s_br S) i) < (((((rnL S am i).1) i) + am) + ((rnL S am i).2.2.2)) then ((s_br S) i) else (((((rnL S am i).1) i) + am) + ((rnL S am i).2.2.2))), s_cr S, s_sh S, s_ow S, s_pa S, s_cb S, s_pd S, s_fz S, s_dk S, s_dy S, ((rnL S am i).2.1) + am, s_dr S, (rnL S am i).2.2.1)) := hD
          refine lv_iload hx hb dX3_rain_72 (lv_at hl 0 rfl) ?_
          refine lv_aload_n hx hb dX3_rain_74 rfl (lv_at hl 1 rfl) ?_
          refine va_get (D := G) (ci := 3) (v := .ref (a 2)) (C := RX3) (T := TX3) (N := 15) hx hb hts in_wsX30 hown hev.1 hP 0 rfl rfl 2 (by decide) (hts (.fieldLink RX3 18 "PuddleMinistries$Street" "waters" "[I") (List.mem_of_getElem? (i := 3) rfl)) (fun _ h9 => h9) rfl dX3_rain_75 ?_
          refine lv_iload_n hx hb dX3_rain_78 rfl (lv_at hl 4 rfl) ?_
          refine b_iald hx hb hev.1 hP 3 rfl rfl (j := i) (by omega) (by decide) dX3_rain_79 ?_
          refine lv_eqi (upd_at _ _ _) ?_
          refine lv_isub hx hb dX3_rain_80 ?_
          refine lv_istore_n (lv' := [(2, .int ((((((rnL S am i).1) i) + am) + ((rnL S am i).2.2.2)) - (if s_br S i < (rnL S am i).1 i + am + (rnL S am i).2.2.2 then s_br S i else (rnL S am i).1 i + am + (rnL S am i).2.2.2))), (4, .int (((((rnL S am i).1) i) + am) + ((rnL S am i).2.2.2))), (0, .ref h), (1, .int am), (3, .int (nI i))]) hx hb dX3_rain_81 rfl hl (by decide) rfl (fun ls hl => ?_)
          refine lv_iinc (v := nI (i + 1)) (lv' := [(3, .int (nI (i + 1))), (2, .int ((((((rnL S am i).1) i) + am) + ((rnL S am i).2.2.2)) - (if s_br S i < (rnL S am i).1 i + am + (rnL S am i).2.2.2 then s_br S i else (rnL S am i).1 i + am + (rnL S am i).2.2.2))), (4, .int (((((rnL S am i).1) i) + am) + ((rnL S am i).2.2.2))), (0, .ref h), (1, .int am)]) hx hb dX3_rain_82 hl (k := 4) rfl (nI_1 _) (by decide) rfl (fun ls hl => ?_)
          refine lv_goto (tgt := 4) hx hb dX3_rain_85 (by decide) ?_
          exact ih (i + 1) (by omega) _ _ _ (by rw [show ((rnL S am (i + 1)).1) = (upd ((rnL S am i).1) i (if ((s_br S) i) < (((((rnL S am i).1) i) + am) + ((rnL S am i).2.2.2)) then ((s_br S) i) else (((((rnL S am i).1) i) + am) + ((rnL S am i).2.2.2)))) from by first | rw [rnL_z c_3] | rw [rnL_n c_3], show ((rnL S am (i + 1)).2.1) = (((rnL S am i).2.1) + am) from by first | rw [rnL_z c_3] | rw [rnL_n c_3], show ((rnL S am (i + 1)).2.2.1) = ((rnL S am i).2.2.1) from by first | rw [rnL_z c_3] | rw [rnL_n c_3]]; exact hP) (D_of hD stF) hS (by rw [show ((rnL S am (i + 1)).2.2.2) = ((((((rnL S am i).1) i) + am) + ((rnL S am i).2.2.2)) - (if s_br S i < (rnL S am i).1 i + am + (rnL S am i).2.2.2 then s_br S i else (rnL S am i).1 i + am + (rnL S am i).2.2.2)) from by first | rw [rnL_z c_3] | rw [rnL_n c_3]]; exact lv_sub hl [3, 4, 1, 0] rfl)
        · skip
          refine lv_aload_n hx hb dX3_rain_18 rfl (lv_at hl 0 rfl) ?_
          refine lv_dup hx hb dX3_rain_19 rfl ?_
          refine va_get (D := G) (ci := 3) (v := .int ((rnL S am i).2.2.1)) (C := RX3) (T := TX3) (N := 15) hx hb hts in_wsX30 hown hev.1 hP 0 rfl rfl 14 (by decide) (hts (.fieldLink RX3 62 "PuddleMinistries$Street" "drained" "I") (List.mem_of_getElem? (i := 1) rfl)) (fun _ h9 => h9) rfl dX3_rain_20 ?_
          refine lv_iload_n hx hb dX3_rain_23 rfl (lv_at hl 2 rfl) ?_
          refine lv_iadd hx hb dX3_rain_24 ?_
          refine va_put (D := G) (ci := 3) (v := .int (((rnL S am i).2.2.1) + ((rnL S am i).2.2.2))) (ty := .int) (C := RX3) (T := TX3) (N := 15) hx hb hts in_wsX30 tyX3 tyX3_ok nmX3 hown hev.1 hP hD hS 0 rfl rfl 14 (by decide) (hts (.fieldLink RX3 62 "PuddleMinistries$Street" "drained" "I") (List.mem_of_getElem? (i := 1) rfl)) (fun _ h9 => h9) rfl (by decide +kernel) rfl rfl (Nat.le_of_ble_eq_true rfl) dX3_rain_25 (fun H locs hP hD hS => ?_)
          have hP : va_P G vwCl (stT ca h a (s_se S, s_br S, (rnL S am i).1, s_cr S, s_sh S, s_ow S, s_pa S, s_cb S, s_pd S, s_fz S, s_dk S, s_dy S, (rnL S am i).2.1, s_dr S, ((rnL S am i).2.2.1) + ((rnL S am i).2.2.2))) H := hP
          have hD : va_D A (stT ca h a (s_se S, s_br S, (rnL S am i).1, s_cr S, s_sh S, s_ow S, s_pa S, s_cb S, s_pd S, s_fz S, s_dk S, s_dy S, (rnL S am i).2.1, s_dr S, ((rnL S am i).2.2.1) + ((rnL S am i).2.2.2))) := hD
          refine lv_iconst (v := 0) hx hb dX3_rain_28 (by decide) ?_
          refine lv_istore_n (lv' := [(2, .int 0), (0, .ref h), (1, .int am), (3, .int (nI i))]) hx hb dX3_rain_29 rfl hl (by decide) rfl (fun ls hl => ?_)
          refine lv_goto (tgt := 82) hx hb dX3_rain_30 (by decide) ?_
          refine lv_iinc (v := nI (i + 1)) (lv' := [(3, .int (nI (i + 1))), (2, .int 0), (0, .ref h), (1, .int am)]) hx hb dX3_rain_82 hl (k := 3) rfl (nI_1 _) (by decide) rfl (fun ls hl => ?_)
          refine lv_goto (tgt := 4) hx hb dX3_rain_85 (by decide) ?_
          exact ih (i + 1) (by omega) _ _ _ (by rw [show ((rnL S am (i + 1)).1) = ((rnL S am i).1) from by first | rw [rnL_z c_3] | rw [rnL_n c_3], show ((rnL S am (i + 1)).2.1) = ((rnL S am i).2.1) from by first | rw [rnL_z c_3] | rw [rnL_n c_3], show ((rnL S am (i + 1)).2.2.1) = (((rnL S am i).2.2.1) + ((rnL S am i).2.2.2)) from by first | rw [rnL_z c_3] | rw [rnL_n c_3]]; exact hP) (D_of hD stF) hS (by rw [show ((rnL S am (i + 1)).2.2.2) = 0 from by first | rw [rnL_z c_3] | rw [rnL_n c_3]]; exact lv_sub hl [2, 3, 1, 0] rfl)
  exact loop_4 n12 0 (by omega) _ _ _ hP (D_of hD stF) hS (lv_sub hl [2, 3, 1, 0] rfl)
set_option maxHeartbeats 4000000 in
set_option maxRecDepth 100000 in
theorem c_X3_shine (l : Launch) (G : va_G) (ca : Nat → ClassId) (h : Nat) (a : Nat → Nat) (S : SS) (n12 : Nat) (h12 : n12 = 12) : CtV l yX3_shine wsX3_shine ({ frames := 2, cells := 0, slots := 0, locals := 42 }) [.ref h] G ca (stT ca h a S) (stT ca h a (s_se S, s_br S, (shL S n12).1, s_cr S, s_sh S, s_ow S, s_pa S, s_cb S, s_pd S, 0, s_dk S, s_dy S, s_fe S, (shL S n12).2, s_dn S)) := by
  refine CtV.ofW (cc := cX3_shine) (maxL := 3) (by decide) rfl (Nat.le_of_ble_eq_true rfl) ?_
  intro pr en s m be me c A ls Q H hx hb hml hts hown hev hP hD hA hS hl hret
  have hown : s.vm.findClass RX3 = some m.cls := hown
  have hl : lv_has ls 3 [(0, .ref h)] := hl
  have in_wsX30 : ∀ w ∈ wsX30, w ∈ wsX3_shine := fun _ h => List.mem_cons_of_mem _ (List.mem_append_right _ h)
  refine lv_iconst (v := nI 0) hx hb dX3_shine_0 (by decide) ?_
  refine lv_istore_n (lv' := [(1, .int (nI 0)), (0, .ref h)]) hx hb dX3_shine_1 rfl hl (by decide) rfl (fun ls hl => ?_)
  have loop_2 : ∀ (n i : Nat), i + n = n12 → ∀ (H : Heap) (locs : List Loc) (ls : Array Slot), va_P G vwCl (stT ca h a (s_se S, s_br S, (shL S i).1, s_cr S, s_sh S, s_ow S, s_pa S, s_cb S, s_pd S, s_fz S, s_dk S, s_dy S, s_fe S, (shL S i).2, s_dn S)) H → va_D A (stT ca h a (s_se S, s_br S, (shL S i).1, s_cr S, s_sh S, s_ow S, s_pa S, s_cb S, s_pd S, s_fz S, s_dk S, s_dy S, s_fe S, (shL S i).2, s_dn S)) → va_S A s.heap H locs → lv_has ls 3 [(0, .ref h), (1, .int (nI i))] → W pr l en ({ frames := 2, cells := 0, slots := 0, locals := 42 } : Room) s m ([.ref h] : List Value).toArray be me c H locs 0 0 Q (F0 m 2 ls []) := by
    intro n
    induction n with
    | zero =>
      intro i hi H locs ls hP hD hS hl
      obtain rfl : n12 = i := by omega
      refine lv_iload_n hx hb dX3_shine_2 rfl (lv_at hl 1 rfl) ?_
      refine lv_bipush (v := nI 12) hx hb dX3_shine_3 (by decide) ?_
      refine lv_icmp_ge (tgt := 61) hx hb dX3_shine_5 (by decide) (fun c_1 => ?_) (fun c_1 => ?_)
      · skip
        refine lv_aload_n hx hb dX3_shine_61 rfl (lv_at hl 0 rfl) ?_
        refine lv_iconst (v := 0) hx hb dX3_shine_62 (by decide) ?_
        refine va_put (D := G) (ci := 3) (v := .int 0) (ty := .int) (C := RX3) (T := TX3) (N := 15) hx hb hts in_wsX30 tyX3 tyX3_ok nmX3 hown hev.1 hP hD hS 0 rfl rfl 9 (by decide) (hts (.fieldLink RX3 46 "PuddleMinistries$Street" "frozenSet" "I") (List.mem_of_getElem? (i := 8) rfl)) (fun _ h9 => h9) rfl (by decide +kernel) rfl rfl (Nat.le_of_ble_eq_true rfl) dX3_shine_63 (fun H locs hP hD hS => ?_)
        have hP : va_P G vwCl (stT ca h a (s_se S, s_br S, (shL S n12).1, s_cr S, s_sh S, s_ow S, s_pa S, s_cb S, s_pd S, 0, s_dk S, s_dy S, s_fe S, (shL S n12).2, s_dn S)) H := hP
        have hD : va_D A (stT ca h a (s_se S, s_br S, (shL S n12).1, s_cr S, s_sh S, s_ow S, s_pa S, s_cb S, s_pd S, 0, s_dk S, s_dy S, s_fe S, (shL S n12).2, s_dn S)) := hD
        exact hret _ _ _ _ hP hS dX3_shine_66
      · skip
        exact absurd (nI_le (by omega) (by omega)) c_1
    | succ n ih =>
      intro i hi H locs ls hP hD hS hl
      have hlt : i < n12 := by omega
      refine lv_iload_n hx hb dX3_shine_2 rfl (lv_at hl 1 rfl) ?_
      refine lv_bipush (v := nI 12) hx hb dX3_shine_3 (by decide) ?_
      refine lv_icmp_ge (tgt := 61) hx hb dX3_shine_5 (by decide) (fun c_2 => ?_) (fun c_2 => ?_)
      · skip
        exact absurd c_2 (nI_ge (by omega) (by omega))
      · skip
        refine lv_aload_n hx hb dX3_shine_8 rfl (lv_at hl 0 rfl) ?_
        refine lv_iload_n hx hb dX3_shine_9 rfl (lv_at hl 1 rfl) ?_
        refine goIw (va_runV (As := [.int (nI i)]) (rest := []) ⟨hx, hb, hml, hown, hts⟩ (CtI.use (c_X3_isFrozen l G ca h a (s_se S, s_br S, (shL S i).1, s_cr S, s_sh S, s_ow S, s_pa S, s_cb S, s_pd S, s_fz S, s_dk S, s_dy S, s_fe S, (shL S i).2, s_dn S) i) H.size) (cwV 1 hts gX3_shine_X3_isFrozen rfl rfl rfl (by decide +kernel) ⟨Nat.le_of_ble_eq_true rfl, Nat.le_of_ble_eq_true rfl⟩) (pcW_V hev hP hD (q0 := 0) rfl rfl rfl) rfl rfl hl.1 rfl (lv_room (Nat.le_of_ble_eq_true rfl)) dX3_shine_10 ⟨Nat.zero_le _, Nat.zero_le _⟩) hD hS hA stF (fun H locs hP hD hS => ?_)
        refine lv_eqi (y := bt1 (s_fz S) i) rfl ?_
        refine lv_if_eq (tgt := 19) hx hb dX3_shine_13 (by decide) (fun c_3 => ?_) (fun c_3 => ?_)
        · skip
          refine lv_aload_n hx hb dX3_shine_19 rfl (lv_at hl 0 rfl) ?_
          refine va_get (D := G) (ci := 3) (v := .ref (a 2)) (C := RX3) (T := TX3) (N := 15) hx hb hts in_wsX30 hown hev.1 hP 0 rfl rfl 2 (by decide) (hts (.fieldLink RX3 18 "PuddleMinistries$Street" "waters" "[I") (List.mem_of_getElem? (i := 1) rfl)) (fun _ h9 => h9) rfl dX3_shine_20 ?_
          refine lv_iload_n hx hb dX3_shine_23 rfl (lv_at hl 1 rfl) ?_
          refine b_iald hx hb hev.1 hP 3 rfl rfl (j := i) (by omega) (by decide) dX3_shine_24 ?_
          refine lv_aload_n hx hb dX3_shine_25 rfl (lv_at hl 0 rfl) ?_
          refine va_get (D := G) (ci := 3) (v := .ref (a 0)) (C := RX3) (T := TX3) (N := 15) hx hb hts in_wsX30 hown hev.1 hP 0 rfl rfl 0 (by decide) (hts (.fieldLink RX3 9 "PuddleMinistries$Street" "settings" "[I") (List.mem_of_getElem? (i := 2) rfl)) (fun _ h9 => h9) rfl dX3_shine_26 ?_
          refine lv_iconst (v := nI 1) hx hb dX3_shine_29 (by decide) ?_
          refine b_iald hx hb hev.1 hP 1 rfl rfl (j := 1) (by omega) (by decide) dX3_shine_30 ?_
          refine va_mmin hx hb (hml.trans hl.1.symm) hown (hts (.methodLink RX3 86 Lib.Math.min.name) (List.mem_of_getElem? (i := 3) rfl)) (hts (.static Lib.Math.min.name) (List.mem_of_getElem? (i := 4) rfl)) (hts (.initialized "java/lang/Math") (List.mem_of_getElem? (i := 5) rfl)) (hts (.code Lib.Math.min.name Lib.Math.min.code 2 (some .int)) (List.mem_of_getElem? (i := 6) rfl)) (Nat.le_of_ble_eq_true rfl) (Nat.le_of_ble_eq_true rfl) (Nat.zero_le _) (Nat.zero_le _) dX3_shine_31 ?_
          refine lv_istore_n (lv' := [(2, .int (if ((s_se S) 1) < (((shL S i).1) i) then ((s_se S) 1) else (((shL S i).1) i))), (0, .ref h), (1, .int (nI i))]) hx hb dX3_shine_34 rfl hl (by decide) rfl (fun ls hl => ?_)
          refine lv_aload_n hx hb dX3_shine_35 rfl (lv_at hl 1 rfl) ?_
          refine va_get (D := G) (ci := 3) (v := .ref (a 2)) (C := RX3) (T := TX3) (N := 15) hx hb hts in_wsX30 hown hev.1 hP 0 rfl rfl 2 (by decide) (hts (.fieldLink RX3 18 "PuddleMinistries$Street" "waters" "[I") (List.mem_of_getElem? (i := 1) rfl)) (fun _ h9 => h9) rfl dX3_shine_36 ?_
          refine lv_iload_n hx hb dX3_shine_39 rfl (lv_at hl 2 rfl) ?_
          refine lv_dup2_11 hx hb dX3_shine_40 rfl rfl ?_
          refine b_iald hx hb hev.1 hP 3 rfl rfl (j := i) (by omega) (by decide) dX3_shine_41 ?_
          refine lv_iload_n hx hb dX3_shine_42 rfl (lv_at hl 0 rfl) ?_
          refine lv_isub hx hb dX3_shine_43 ?_
          refine b_iast hx hb hev.1 hP hD hS 3 rfl rfl (j := i) (by omega) (by decide) dX3_shine_44 (fun H locs hP hD hS => ?_)
          have hP : va_P G vwCl (stT ca h a (s_se S, s_br S, upd ((shL S i).1) i ((((shL S i).1) i) - (if ((s_se S) 1) < (((shL S i).1) i) then ((s_se S) 1) else (((shL S i).1) i))), s_cr S, s_sh S, s_ow S, s_pa S, s_cb S, s_pd S, s_fz S, s_dk S, s_dy S, s_fe S, (shL S i).2, s_dn S)) H := hP
          have hD : va_D A (stT ca h a (s_se S, s_br S, upd ((shL S i).1) i ((((shL S i).1) i) - (if ((s_se S) 1) < (((shL S i).1) i) then ((s_se S) 1) else (((shL S i).1) i))), s_cr S, s_sh S, s_ow S, s_pa S, s_cb S, s_pd S, s_fz S, s_dk S, s_dy S, s_fe S, (shL S i).2, s_dn S)) := hD
          refine lv_aload_n hx hb dX3_shine_45 rfl (lv_at hl 1 rfl) ?_
          refine lv_dup hx hb dX3_shine_46 rfl ?_
          refine va_get (D := G) (ci := 3) (v := .int ((shL S i).2)) (C := RX3) (T := TX3) (N := 15) hx hb hts in_wsX30 hown hev.1 hP 0 rfl rfl 13 (by decide) (hts (.fieldLink RX3 59 "PuddleMinistries$Street" "dried" "I") (List.mem_of_getElem? (i := 7) rfl)) (fun _ h9 => h9) rfl dX3_shine_47 ?_
          refine lv_iload_n hx hb dX3_shine_50 rfl (lv_at hl 0 rfl) ?_
          refine lv_iadd hx hb dX3_shine_51 ?_
          refine va_put (D := G) (ci := 3) (v := .int (((shL S i).2) + (if ((s_se S) 1) < (((shL S i).1) i) then ((s_se S) 1) else (((shL S i).1) i)))) (ty := .int) (C := RX3) (T := TX3) (N := 15) hx hb hts in_wsX30 tyX3 tyX3_ok nmX3 hown hev.1 hP hD hS 0 rfl rfl 13 (by decide) (hts (.fieldLink RX3 59 "PuddleMinistries$Street" "dried" "I") (List.mem_of_getElem? (i := 7) rfl)) (fun _ h9 => h9) rfl (by decide +kernel) rfl rfl (Nat.le_of_ble_eq_true rfl) dX3_shine_52 (fun H locs hP hD hS => ?_)
          have hP : va_P G vwCl (stT ca h a (s_se S, s_br S, upd ((shL S i).1) i ((((shL S i).1) i) - (if ((s_se S) 1) < (((shL S i).1) i) then ((s_se S) 1) else (((shL S i).1) i))), s_cr S, s_sh S, s_ow S, s_pa S, s_cb S, s_pd S, s_fz S, s_dk S, s_dy S, s_fe S, ((shL S i).2) + (if ((s_se S) 1) < (((shL S i).1) i) then ((s_se S) 1) else (((shL S i).1) i)), s_dn S)) H := hP
          have hD : va_D A (stT ca h a (s_se S, s_br S, upd ((shL S i).1) i ((((shL S i).1) i) - (if ((s_se S) 1) < (((shL S i).1) i) then ((s_se S) 1) else (((shL S i).1) i))), s_cr S, s_sh S, s_ow S, s_pa S, s_cb S, s_pd S, s_fz S, s_dk S, s_dy S, s_fe S, ((shL S i).2) + (if ((s_se S) 1) < (((shL S i).1) i) then ((s_se S) 1) else (((shL S i).1) i)), s_dn S)) := hD
          refine lv_iinc (v := nI (i + 1)) (lv' := [(1, .int (nI (i + 1))), (2, .int (if ((s_se S) 1) < (((shL S i).1) i) then ((s_se S) 1) else (((shL S i).1) i))), (0, .ref h)]) hx hb dX3_shine_55 hl (k := 2) rfl (nI_1 _) (by decide) rfl (fun ls hl => ?_)
          refine lv_goto (tgt := 2) hx hb dX3_shine_58 (by decide) ?_
          exact ih (i + 1) (by omega) _ _ _ (by rw [show ((shL S (i + 1)).1) = (upd ((shL S i).1) i ((((shL S i).1) i) - (if ((s_se S) 1) < (((shL S i).1) i) then ((s_se S) 1) else (((shL S i).1) i)))) from by first | rw [shL_z c_3] | rw [shL_n c_3], show ((shL S (i + 1)).2) = (((shL S i).2) + (if ((s_se S) 1) < (((shL S i).1) i) then ((s_se S) 1) else (((shL S i).1) i))) from by first | rw [shL_z c_3] | rw [shL_n c_3]]; exact hP) (D_of hD stF) hS (lv_sub hl [2, 0] rfl)
        · skip
          refine lv_goto (tgt := 55) hx hb dX3_shine_16 (by decide) ?_
          refine lv_iinc (v := nI (i + 1)) (lv' := [(1, .int (nI (i + 1))), (0, .ref h)]) hx hb dX3_shine_55 hl (k := 1) rfl (nI_1 _) (by decide) rfl (fun ls hl => ?_)
          refine lv_goto (tgt := 2) hx hb dX3_shine_58 (by decide) ?_
          exact ih (i + 1) (by omega) _ _ _ (by rw [show ((shL S (i + 1)).1) = ((shL S i).1) from by first | rw [shL_z c_3] | rw [shL_n c_3], show ((shL S (i + 1)).2) = ((shL S i).2) from by first | rw [shL_z c_3] | rw [shL_n c_3]]; exact hP) (D_of hD stF) hS (lv_sub hl [1, 0] rfl)
  exact loop_2 n12 0 (by omega) _ _ _ hP (D_of hD stF) hS (lv_sub hl [1, 0] rfl)
set_option maxHeartbeats 4000000 in
set_option maxRecDepth 100000 in
theorem c_X3_freeze (l : Launch) (G : va_G) (ca : Nat → ClassId) (h : Nat) (a : Nat → Nat) (S : SS) (n12 : Nat) (h12 : n12 = 12) : CtV l yX3_freeze wsX3_freeze ({ frames := 1, cells := 0, slots := 0, locals := 21 }) [.ref h] G ca (stT ca h a S) (stT ca h a (s_se S, s_br S, s_wa S, s_cr S, s_sh S, s_ow S, s_pa S, s_cb S, s_pd S, frL S n12, s_dk S, s_dy S, s_fe S, s_dr S, s_dn S)) := by
  refine CtV.ofW (cc := cX3_freeze) (maxL := 2) (by decide) rfl (Nat.le_of_ble_eq_true rfl) ?_
  intro pr en s m be me c A ls Q H hx hb hml hts hown hev hP hD hA hS hl hret
  have hown : s.vm.findClass RX3 = some m.cls := hown
  have hl : lv_has ls 2 [(0, .ref h)] := hl
  have in_wsX30 : ∀ w ∈ wsX30, w ∈ wsX3_freeze := fun _ h => List.mem_cons_of_mem _ (List.mem_append_right _ h)
  refine lv_iconst (v := nI 0) hx hb dX3_freeze_0 (by decide) ?_
  refine lv_istore_n (lv' := [(1, .int (nI 0)), (0, .ref h)]) hx hb dX3_freeze_1 rfl hl (by decide) rfl (fun ls hl => ?_)
  have loop_2 : ∀ (n i : Nat), i + n = n12 → ∀ (H : Heap) (locs : List Loc) (ls : Array Slot), va_P G vwCl (stT ca h a (s_se S, s_br S, s_wa S, s_cr S, s_sh S, s_ow S, s_pa S, s_cb S, s_pd S, frL S i, s_dk S, s_dy S, s_fe S, s_dr S, s_dn S)) H → va_D A (stT ca h a (s_se S, s_br S, s_wa S, s_cr S, s_sh S, s_ow S, s_pa S, s_cb S, s_pd S, frL S i, s_dk S, s_dy S, s_fe S, s_dr S, s_dn S)) → va_S A s.heap H locs → lv_has ls 2 [(0, .ref h), (1, .int (nI i))] → W pr l en ({ frames := 1, cells := 0, slots := 0, locals := 21 } : Room) s m ([.ref h] : List Value).toArray be me c H locs 0 0 Q (F0 m 2 ls []) := by
    intro n
    induction n with
    | zero =>
      intro i hi H locs ls hP hD hS hl
      obtain rfl : n12 = i := by omega
      refine lv_iload_n hx hb dX3_freeze_2 rfl (lv_at hl 1 rfl) ?_
      refine lv_bipush (v := nI 12) hx hb dX3_freeze_3 (by decide) ?_
      refine lv_icmp_ge (tgt := 35) hx hb dX3_freeze_5 (by decide) (fun c_1 => ?_) (fun c_1 => ?_)
      · skip
        exact hret _ _ _ _ hP hS dX3_freeze_35
      · skip
        exact absurd (nI_le (by omega) (by omega)) c_1
    | succ n ih =>
      intro i hi H locs ls hP hD hS hl
      have hlt : i < n12 := by omega
      refine lv_iload_n hx hb dX3_freeze_2 rfl (lv_at hl 1 rfl) ?_
      refine lv_bipush (v := nI 12) hx hb dX3_freeze_3 (by decide) ?_
      refine lv_icmp_ge (tgt := 35) hx hb dX3_freeze_5 (by decide) (fun c_2 => ?_) (fun c_2 => ?_)
      · skip
        exact absurd c_2 (nI_ge (by omega) (by omega))
      · skip
        refine lv_aload_n hx hb dX3_freeze_8 rfl (lv_at hl 0 rfl) ?_
        refine lv_iload_n hx hb dX3_freeze_9 rfl (lv_at hl 1 rfl) ?_
        refine goIw (va_runV (As := [.int (nI i)]) (rest := []) ⟨hx, hb, hml, hown, hts⟩ (CtI.use (c_X3_depth l G ca h a (s_se S, s_br S, s_wa S, s_cr S, s_sh S, s_ow S, s_pa S, s_cb S, s_pd S, frL S i, s_dk S, s_dy S, s_fe S, s_dr S, s_dn S) i (by omega)) H.size) (cwV 1 hts gX3_freeze_X3_depth rfl rfl rfl (by decide +kernel) ⟨Nat.le_of_ble_eq_true rfl, Nat.le_of_ble_eq_true rfl⟩) (pcW_V hev hP hD (q0 := 0) rfl rfl rfl) rfl rfl hl.1 rfl (lv_room (Nat.le_of_ble_eq_true rfl)) dX3_freeze_10 ⟨Nat.zero_le _, Nat.zero_le _⟩) hD hS hA stF (fun H locs hP hD hS => ?_)
        refine lv_eqi (y := (s_wa S) i / 5) rfl ?_
        refine lv_iconst (v := 4) hx hb dX3_freeze_13 (by decide) ?_
        refine lv_icmp_ge (tgt := 29) hx hb dX3_freeze_14 (by decide) (fun c_3 => ?_) (fun c_3 => ?_)
        · skip
          refine lv_iinc (v := nI (i + 1)) (lv' := [(1, .int (nI (i + 1))), (0, .ref h)]) hx hb dX3_freeze_29 hl (k := 1) rfl (nI_1 _) (by decide) rfl (fun ls hl => ?_)
          refine lv_goto (tgt := 2) hx hb dX3_freeze_32 (by decide) ?_
          exact ih (i + 1) (by omega) _ _ _ (by rw [show (frL S (i + 1)) = (frL S i) from by rw [frL_s, if_pos c_3]]; exact hP) (D_of hD stF) hS (lv_sub hl [1, 0] rfl)
        · skip
          refine lv_aload_n hx hb dX3_freeze_17 rfl (lv_at hl 0 rfl) ?_
          refine lv_dup hx hb dX3_freeze_18 rfl ?_
          refine va_get (D := G) (ci := 3) (v := .int (frL S i)) (C := RX3) (T := TX3) (N := 15) hx hb hts in_wsX30 hown hev.1 hP 0 rfl rfl 9 (by decide) (hts (.fieldLink RX3 46 "PuddleMinistries$Street" "frozenSet" "I") (List.mem_of_getElem? (i := 1) rfl)) (fun _ h9 => h9) rfl dX3_freeze_19 ?_
          refine lv_iconst (v := 1) hx hb dX3_freeze_22 (by decide) ?_
          refine lv_iload_n hx hb dX3_freeze_23 rfl (lv_at hl 1 rfl) ?_
          refine lv_ishl hx hb dX3_freeze_24 ?_
          refine lv_ior hx hb dX3_freeze_25 ?_
          refine va_put (D := G) (ci := 3) (v := .int ((frL S i) ||| (1 <<< ((nI i) &&& 31)))) (ty := .int) (C := RX3) (T := TX3) (N := 15) hx hb hts in_wsX30 tyX3 tyX3_ok nmX3 hown hev.1 hP hD hS 0 rfl rfl 9 (by decide) (hts (.fieldLink RX3 46 "PuddleMinistries$Street" "frozenSet" "I") (List.mem_of_getElem? (i := 1) rfl)) (fun _ h9 => h9) rfl (by decide +kernel) rfl rfl (Nat.le_of_ble_eq_true rfl) dX3_freeze_26 (fun H locs hP hD hS => ?_)
          have hP : va_P G vwCl (stT ca h a (s_se S, s_br S, s_wa S, s_cr S, s_sh S, s_ow S, s_pa S, s_cb S, s_pd S, (frL S i) ||| (1 <<< ((nI i) &&& 31)), s_dk S, s_dy S, s_fe S, s_dr S, s_dn S)) H := hP
          have hD : va_D A (stT ca h a (s_se S, s_br S, s_wa S, s_cr S, s_sh S, s_ow S, s_pa S, s_cb S, s_pd S, (frL S i) ||| (1 <<< ((nI i) &&& 31)), s_dk S, s_dy S, s_fe S, s_dr S, s_dn S)) := hD
          refine lv_iinc (v := nI (i + 1)) (lv' := [(1, .int (nI (i + 1))), (0, .ref h)]) hx hb dX3_freeze_29 hl (k := 1) rfl (nI_1 _) (by decide) rfl (fun ls hl => ?_)
          refine lv_goto (tgt := 2) hx hb dX3_freeze_32 (by decide) ?_
          exact ih (i + 1) (by omega) _ _ _ (by rw [show (frL S (i + 1)) = ((frL S i) ||| (1 <<< ((nI i) &&& 31))) from by rw [frL_s, if_neg c_3]]; exact hP) (D_of hD stF) hS (lv_sub hl [1, 0] rfl)
  exact loop_2 n12 0 (by omega) _ _ _ hP (D_of hD stF) hS (lv_sub hl [1, 0] rfl)
set_option maxHeartbeats 4000000 in
set_option maxRecDepth 100000 in
theorem c_X3_endDay (l : Launch) (G : va_G) (ca : Nat → ClassId) (h : Nat) (a : Nat → Nat) (S : SS) (n6 : Nat) (n12 : Nat) (h6 : n6 = 6) (h12 : n12 = 12) : CtV l yX3_endDay wsX3_endDay ({ frames := 2, cells := 0, slots := 0, locals := 44 }) [.ref h] G ca (stT ca h a S) (stT ca h a (s_se S, s_br S, s_wa S, s_cr S, s_sh S, s_ow S, s_pa S, s_cb S, (edL S n6 n12).2, s_fz S, (edL S n6 n12).1, s_dy S + 1, s_fe S, s_dr S, s_dn S)) := by
  refine CtV.ofW (cc := cX3_endDay) (maxL := 2) (by decide) rfl (Nat.le_of_ble_eq_true rfl) ?_
  intro pr en s m be me c A ls Q H hx hb hml hts hown hev hP hD hA hS hl hret
  have hown : s.vm.findClass RX3 = some m.cls := hown
  have hl : lv_has ls 2 [(0, .ref h)] := hl
  have in_wsX30 : ∀ w ∈ wsX30, w ∈ wsX3_endDay := fun _ h => List.mem_cons_of_mem _ (List.mem_append_right _ h)
  refine lv_aload_n hx hb dX3_endDay_0 rfl (lv_at hl 0 rfl) ?_
  refine lv_iconst (v := 0) hx hb dX3_endDay_1 (by decide) ?_
  refine va_put (D := G) (ci := 3) (v := .int 0) (ty := .int) (C := RX3) (T := TX3) (N := 15) hx hb hts in_wsX30 tyX3 tyX3_ok nmX3 hown hev.1 hP hD hS 0 rfl rfl 10 (by decide) (hts (.fieldLink RX3 50 "PuddleMinistries$Street" "ducksSet" "I") (List.mem_of_getElem? (i := 1) rfl)) (fun _ h9 => h9) rfl (by decide +kernel) rfl rfl (Nat.le_of_ble_eq_true rfl) dX3_endDay_2 (fun H locs hP hD hS => ?_)
  have hP : va_P G vwCl (stT ca h a (s_se S, s_br S, s_wa S, s_cr S, s_sh S, s_ow S, s_pa S, s_cb S, s_pd S, s_fz S, 0, s_dy S, s_fe S, s_dr S, s_dn S)) H := hP
  have hD : va_D A (stT ca h a (s_se S, s_br S, s_wa S, s_cr S, s_sh S, s_ow S, s_pa S, s_cb S, s_pd S, s_fz S, 0, s_dy S, s_fe S, s_dr S, s_dn S)) := hD
  refine lv_iconst (v := nI 0) hx hb dX3_endDay_5 (by decide) ?_
  refine lv_istore_n (lv' := [(1, .int (nI 0)), (0, .ref h)]) hx hb dX3_endDay_6 rfl hl (by decide) rfl (fun ls hl => ?_)
  have loop_7 : ∀ (n i : Nat), i + n = n12 → ∀ (H : Heap) (locs : List Loc) (ls : Array Slot), va_P G vwCl (stT ca h a (s_se S, s_br S, s_wa S, s_cr S, s_sh S, s_ow S, s_pa S, s_cb S, (edL S n6 i).2, s_fz S, (edL S n6 i).1, s_dy S, s_fe S, s_dr S, s_dn S)) H → va_D A (stT ca h a (s_se S, s_br S, s_wa S, s_cr S, s_sh S, s_ow S, s_pa S, s_cb S, (edL S n6 i).2, s_fz S, (edL S n6 i).1, s_dy S, s_fe S, s_dr S, s_dn S)) → va_S A s.heap H locs → lv_has ls 2 [(0, .ref h), (1, .int (nI i))] → W pr l en ({ frames := 2, cells := 0, slots := 0, locals := 44 } : Room) s m ([.ref h] : List Value).toArray be me c H locs 0 0 Q (F0 m 7 ls []) := by
    intro n
    induction n with
    | zero =>
      intro i hi H locs ls hP hD hS hl
      obtain rfl : n12 = i := by omega
      refine lv_iload_n hx hb dX3_endDay_7 rfl (lv_at hl 1 rfl) ?_
      refine lv_bipush (v := nI 12) hx hb dX3_endDay_8 (by decide) ?_
      refine lv_icmp_ge (tgt := 62) hx hb dX3_endDay_10 (by decide) (fun c_1 => ?_) (fun c_1 => ?_)
      · skip
        refine lv_aload_n hx hb dX3_endDay_62 rfl (lv_at hl 0 rfl) ?_
        refine lv_dup hx hb dX3_endDay_63 rfl ?_
        refine va_get (D := G) (ci := 3) (v := .int (s_dy S)) (C := RX3) (T := TX3) (N := 15) hx hb hts in_wsX30 hown hev.1 hP 0 rfl rfl 11 (by decide) (hts (.fieldLink RX3 53 "PuddleMinistries$Street" "days" "I") (List.mem_of_getElem? (i := 4) rfl)) (fun _ h9 => h9) rfl dX3_endDay_64 ?_
        refine lv_iconst (v := 1) hx hb dX3_endDay_67 (by decide) ?_
        refine lv_iadd hx hb dX3_endDay_68 ?_
        refine va_put (D := G) (ci := 3) (v := .int ((s_dy S) + 1)) (ty := .int) (C := RX3) (T := TX3) (N := 15) hx hb hts in_wsX30 tyX3 tyX3_ok nmX3 hown hev.1 hP hD hS 0 rfl rfl 11 (by decide) (hts (.fieldLink RX3 53 "PuddleMinistries$Street" "days" "I") (List.mem_of_getElem? (i := 4) rfl)) (fun _ h9 => h9) rfl (by decide +kernel) rfl rfl (Nat.le_of_ble_eq_true rfl) dX3_endDay_69 (fun H locs hP hD hS => ?_)
        have hP : va_P G vwCl (stT ca h a (s_se S, s_br S, s_wa S, s_cr S, s_sh S, s_ow S, s_pa S, s_cb S, (edL S n6 n12).2, s_fz S, (edL S n6 n12).1, (s_dy S) + 1, s_fe S, s_dr S, s_dn S)) H := hP
        have hD : va_D A (stT ca h a (s_se S, s_br S, s_wa S, s_cr S, s_sh S, s_ow S, s_pa S, s_cb S, (edL S n6 n12).2, s_fz S, (edL S n6 n12).1, (s_dy S) + 1, s_fe S, s_dr S, s_dn S)) := hD
        exact hret _ _ _ _ hP hS dX3_endDay_72
      · skip
        exact absurd (nI_le (by omega) (by omega)) c_1
    | succ n ih =>
      intro i hi H locs ls hP hD hS hl
      have hlt : i < n12 := by omega
      refine lv_iload_n hx hb dX3_endDay_7 rfl (lv_at hl 1 rfl) ?_
      refine lv_bipush (v := nI 12) hx hb dX3_endDay_8 (by decide) ?_
      refine lv_icmp_ge (tgt := 62) hx hb dX3_endDay_10 (by decide) (fun c_2 => ?_) (fun c_2 => ?_)
      · skip
        exact absurd c_2 (nI_ge (by omega) (by omega))
      · skip
        refine lv_aload_n hx hb dX3_endDay_13 rfl (lv_at hl 0 rfl) ?_
        refine lv_iload_n hx hb dX3_endDay_14 rfl (lv_at hl 1 rfl) ?_
        refine goIw (va_runV (As := [.int (nI i)]) (rest := []) ⟨hx, hb, hml, hown, hts⟩ (CtI.use (c_X3_isFrozen l G ca h a (s_se S, s_br S, s_wa S, s_cr S, s_sh S, s_ow S, s_pa S, s_cb S, (edL S n6 i).2, s_fz S, (edL S n6 i).1, s_dy S, s_fe S, s_dr S, s_dn S) i) H.size) (cwV 1 hts gX3_endDay_X3_isFrozen rfl rfl rfl (by decide +kernel) ⟨Nat.le_of_ble_eq_true rfl, Nat.le_of_ble_eq_true rfl⟩) (pcW_V hev hP hD (q0 := 0) rfl rfl rfl) rfl rfl hl.1 rfl (lv_room (Nat.le_of_ble_eq_true rfl)) dX3_endDay_15 ⟨Nat.zero_le _, Nat.zero_le _⟩) hD hS hA stF (fun H locs hP hD hS => ?_)
        refine lv_eqi (y := bt1 (s_fz S) i) rfl ?_
        refine lv_if_eq (tgt := 24) hx hb dX3_endDay_18 (by decide) (fun c_3 => ?_) (fun c_3 => ?_)
        · skip
          refine lv_aload_n hx hb dX3_endDay_24 rfl (lv_at hl 0 rfl) ?_
          refine va_get (D := G) (ci := 3) (v := .ref (a 2)) (C := RX3) (T := TX3) (N := 15) hx hb hts in_wsX30 hown hev.1 hP 0 rfl rfl 2 (by decide) (hts (.fieldLink RX3 18 "PuddleMinistries$Street" "waters" "[I") (List.mem_of_getElem? (i := 2) rfl)) (fun _ h9 => h9) rfl dX3_endDay_25 ?_
          refine lv_iload_n hx hb dX3_endDay_28 rfl (lv_at hl 1 rfl) ?_
          refine b_iald hx hb hev.1 hP 3 rfl rfl (j := i) (by omega) (by decide) dX3_endDay_29 ?_
          refine lv_aload_n hx hb dX3_endDay_30 rfl (lv_at hl 0 rfl) ?_
          refine va_get (D := G) (ci := 3) (v := .ref (a 0)) (C := RX3) (T := TX3) (N := 15) hx hb hts in_wsX30 hown hev.1 hP 0 rfl rfl 0 (by decide) (hts (.fieldLink RX3 9 "PuddleMinistries$Street" "settings" "[I") (List.mem_of_getElem? (i := 3) rfl)) (fun _ h9 => h9) rfl dX3_endDay_31 ?_
          refine lv_iconst (v := nI 2) hx hb dX3_endDay_34 (by decide) ?_
          refine b_iald hx hb hev.1 hP 1 rfl rfl (j := 2) (by omega) (by decide) dX3_endDay_35 ?_
          refine lv_icmp_lt (tgt := 51) hx hb dX3_endDay_36 (by decide) (fun c_4 => ?_) (fun c_4 => ?_)
          · skip
            refine lv_aload_n hx hb dX3_endDay_51 rfl (lv_at hl 0 rfl) ?_
            refine lv_iload_n hx hb dX3_endDay_52 rfl (lv_at hl 1 rfl) ?_
            refine goVw (va_runV (As := [.int (nI i)]) (rest := []) ⟨hx, hb, hml, hown, hts⟩ (CtV.use (c_X3_agePermitsAt l G ca h a (s_se S, s_br S, s_wa S, s_cr S, s_sh S, s_ow S, s_pa S, s_cb S, (edL S n6 i).2, s_fz S, (edL S n6 i).1, s_dy S, s_fe S, s_dr S, s_dn S) i n6 (by omega) h6) H.size) (cwV 1 hts gX3_endDay_X3_agePermitsAt rfl rfl rfl (by decide +kernel) ⟨Nat.le_of_ble_eq_true rfl, Nat.le_of_ble_eq_true rfl⟩) (pcW_V hev hP hD (q0 := 0) rfl rfl rfl) rfl rfl hl.1 rfl (lv_room (Nat.le_of_ble_eq_true rfl)) dX3_endDay_53 ⟨Nat.zero_le _, Nat.zero_le _⟩) hD hS hA stF (fun H locs hP hD hS => ?_)
            refine lv_iinc (v := nI (i + 1)) (lv' := [(1, .int (nI (i + 1))), (0, .ref h)]) hx hb dX3_endDay_56 hl (k := 1) rfl (nI_1 _) (by decide) rfl (fun ls hl => ?_)
            refine lv_goto (tgt := 7) hx hb dX3_endDay_59 (by decide) ?_
            exact ih (i + 1) (by omega) _ _ _ (by rw [show ((edL S n6 (i + 1)).2) = (agL (((edL S n6 i).2)) i n6) from by rw [edL_s, if_pos c_3, if_pos c_4], show ((edL S n6 (i + 1)).1) = ((edL S n6 i).1) from by rw [edL_s, if_pos c_3, if_pos c_4]]; exact hP) (D_of hD stF) hS (lv_sub hl [1, 0] rfl)
          · skip
            refine lv_aload_n hx hb dX3_endDay_39 rfl (lv_at hl 0 rfl) ?_
            refine lv_dup hx hb dX3_endDay_40 rfl ?_
            refine va_get (D := G) (ci := 3) (v := .int ((edL S n6 i).1)) (C := RX3) (T := TX3) (N := 15) hx hb hts in_wsX30 hown hev.1 hP 0 rfl rfl 10 (by decide) (hts (.fieldLink RX3 50 "PuddleMinistries$Street" "ducksSet" "I") (List.mem_of_getElem? (i := 1) rfl)) (fun _ h9 => h9) rfl dX3_endDay_41 ?_
            refine lv_iconst (v := 1) hx hb dX3_endDay_44 (by decide) ?_
            refine lv_iload_n hx hb dX3_endDay_45 rfl (lv_at hl 1 rfl) ?_
            refine lv_ishl hx hb dX3_endDay_46 ?_
            refine lv_ior hx hb dX3_endDay_47 ?_
            refine va_put (D := G) (ci := 3) (v := .int (((edL S n6 i).1) ||| (1 <<< ((nI i) &&& 31)))) (ty := .int) (C := RX3) (T := TX3) (N := 15) hx hb hts in_wsX30 tyX3 tyX3_ok nmX3 hown hev.1 hP hD hS 0 rfl rfl 10 (by decide) (hts (.fieldLink RX3 50 "PuddleMinistries$Street" "ducksSet" "I") (List.mem_of_getElem? (i := 1) rfl)) (fun _ h9 => h9) rfl (by decide +kernel) rfl rfl (Nat.le_of_ble_eq_true rfl) dX3_endDay_48 (fun H locs hP hD hS => ?_)
            have hP : va_P G vwCl (stT ca h a (s_se S, s_br S, s_wa S, s_cr S, s_sh S, s_ow S, s_pa S, s_cb S, (edL S n6 i).2, s_fz S, ((edL S n6 i).1) ||| (1 <<< ((nI i) &&& 31)), s_dy S, s_fe S, s_dr S, s_dn S)) H := hP
            have hD : va_D A (stT ca h a (s_se S, s_br S, s_wa S, s_cr S, s_sh S, s_ow S, s_pa S, s_cb S, (edL S n6 i).2, s_fz S, ((edL S n6 i).1) ||| (1 <<< ((nI i) &&& 31)), s_dy S, s_fe S, s_dr S, s_dn S)) := hD
            refine lv_aload_n hx hb dX3_endDay_51 rfl (lv_at hl 0 rfl) ?_
            refine lv_iload_n hx hb dX3_endDay_52 rfl (lv_at hl 1 rfl) ?_
            refine goVw (va_runV (As := [.int (nI i)]) (rest := []) ⟨hx, hb, hml, hown, hts⟩ (CtV.use (c_X3_agePermitsAt l G ca h a (s_se S, s_br S, s_wa S, s_cr S, s_sh S, s_ow S, s_pa S, s_cb S, (edL S n6 i).2, s_fz S, ((edL S n6 i).1) ||| (1 <<< ((nI i) &&& 31)), s_dy S, s_fe S, s_dr S, s_dn S) i n6 (by omega) h6) H.size) (cwV 1 hts gX3_endDay_X3_agePermitsAt rfl rfl rfl (by decide +kernel) ⟨Nat.le_of_ble_eq_true rfl, Nat.le_of_ble_eq_true rfl⟩) (pcW_V hev hP hD (q0 := 0) rfl rfl rfl) rfl rfl hl.1 rfl (lv_room (Nat.le_of_ble_eq_true rfl)) dX3_endDay_53 ⟨Nat.zero_le _, Nat.zero_le _⟩) hD hS hA stF (fun H locs hP hD hS => ?_)
            refine lv_iinc (v := nI (i + 1)) (lv' := [(1, .int (nI (i + 1))), (0, .ref h)]) hx hb dX3_endDay_56 hl (k := 1) rfl (nI_1 _) (by decide) rfl (fun ls hl => ?_)
            refine lv_goto (tgt := 7) hx hb dX3_endDay_59 (by decide) ?_
            exact ih (i + 1) (by omega) _ _ _ (by rw [show ((edL S n6 (i + 1)).2) = (agL (((edL S n6 i).2)) i n6) from by rw [edL_s, if_pos c_3, if_neg c_4], show ((edL S n6 (i + 1)).1) = (((edL S n6 i).1) ||| (1 <<< ((nI i) &&& 31))) from by rw [edL_s, if_pos c_3, if_neg c_4]]; exact hP) (D_of hD stF) hS (lv_sub hl [1, 0] rfl)
        · skip
          refine lv_goto (tgt := 56) hx hb dX3_endDay_21 (by decide) ?_
          refine lv_iinc (v := nI (i + 1)) (lv' := [(1, .int (nI (i + 1))), (0, .ref h)]) hx hb dX3_endDay_56 hl (k := 1) rfl (nI_1 _) (by decide) rfl (fun ls hl => ?_)
          refine lv_goto (tgt := 7) hx hb dX3_endDay_59 (by decide) ?_
          exact ih (i + 1) (by omega) _ _ _ (by rw [show ((edL S n6 (i + 1)).2) = ((edL S n6 i).2) from by rw [edL_s, if_neg c_3], show ((edL S n6 (i + 1)).1) = ((edL S n6 i).1) from by rw [edL_s, if_neg c_3]]; exact hP) (D_of hD stF) hS (lv_sub hl [1, 0] rfl)
  exact loop_7 n12 0 (by omega) _ _ _ hP (D_of hD stF) hS (lv_sub hl [1, 0] rfl)
def lpS (x : Int32) (S : SS) (n6 n12 : Nat) : SS := if x = 0 then (s_se S, s_br S, (shL S n12).1, s_cr S, s_sh S, s_ow S, s_pa S, s_cb S, s_pd S, 0, s_dk S, s_dy S, s_fe S, (shL S n12).2, s_dn S) else if x = 10 then (s_se S, s_br S, s_wa S, s_cr S, s_sh S, s_ow S, s_pa S, s_cb S, s_pd S, frL S n12, s_dk S, s_dy S, s_fe S, s_dr S, s_dn S) else if x = 11 then (s_se S, s_br S, s_wa S, s_cr S, s_sh S, s_ow S, s_pa S, s_cb S, (edL S n6 n12).2, s_fz S, (edL S n6 n12).1, s_dy S + 1, s_fe S, s_dr S, s_dn S) else if x ≤ 0 then S else if 9 < x then S else (s_se S, s_br S, (rnL S x n12).1, s_cr S, s_sh S, s_ow S, s_pa S, s_cb S, s_pd S, s_fz S, s_dk S, s_dy S, (rnL S x n12).2.1, s_dr S, (rnL S x n12).2.2.1 + (rnL S x n12).2.2.2)
set_option maxHeartbeats 4000000 in
set_option maxRecDepth 100000 in
theorem c_X3_letPass (l : Launch) (G : va_G) (ca : Nat → ClassId) (h : Nat) (a : Nat → Nat) (S : SS) (x : Int32) (n6 : Nat) (n12 : Nat) (h6 : n6 = 6) (h12 : n12 = 12) : CtV l yX3_letPass wsX3_letPass ({ frames := 3, cells := 0, slots := 0, locals := 66 }) [.ref h, .int x] G ca (stT ca h a S) (stT ca h a (lpS x S n6 n12)) := by
  refine CtV.ofW (cc := cX3_letPass) (maxL := 2) (by decide) rfl (Nat.le_of_ble_eq_true rfl) ?_
  intro pr en s m be me c A ls Q H hx hb hml hts hown hev hP hD hA hS hl hret
  have hown : s.vm.findClass RX3 = some m.cls := hown
  have hl : lv_has ls 2 [(0, .ref h), (1, .int x)] := hl
  have in_wsX30 : ∀ w ∈ wsX30, w ∈ wsX3_letPass := fun _ h => List.mem_cons_of_mem _ (List.mem_append_right _ h)
  refine lv_iload_n hx hb dX3_letPass_0 rfl (lv_at hl 1 rfl) ?_
  refine lv_if_ne (tgt := 11) hx hb dX3_letPass_1 (by decide) (fun c_1 => ?_) (fun c_1 => ?_)
  · skip
    refine lv_iload_n hx hb dX3_letPass_11 rfl (lv_at hl 1 rfl) ?_
    refine lv_bipush (v := 10) hx hb dX3_letPass_12 (by decide) ?_
    refine lv_icmp_ne (tgt := 24) hx hb dX3_letPass_14 (by decide) (fun c_2 => ?_) (fun c_2 => ?_)
    · skip
      refine lv_iload_n hx hb dX3_letPass_24 rfl (lv_at hl 1 rfl) ?_
      refine lv_bipush (v := 11) hx hb dX3_letPass_25 (by decide) ?_
      refine lv_icmp_ne (tgt := 37) hx hb dX3_letPass_27 (by decide) (fun c_3 => ?_) (fun c_3 => ?_)
      · skip
        refine lv_iload_n hx hb dX3_letPass_37 rfl (lv_at hl 1 rfl) ?_
        refine lv_if_le (tgt := 52) hx hb dX3_letPass_38 (by decide) (fun c_4 => ?_) (fun c_4 => ?_)
        · skip
          have e_5 : (lpS x S n6 n12) = S := by rw [lpS, if_neg c_1, if_neg c_2, if_neg c_3, if_pos c_4]
          exact hret _ _ _ _ (by rw [e_5]; exact hP) hS dX3_letPass_52
        · skip
          refine lv_iload_n hx hb dX3_letPass_41 rfl (lv_at hl 1 rfl) ?_
          refine lv_bipush (v := 9) hx hb dX3_letPass_42 (by decide) ?_
          refine lv_icmp_gt (tgt := 52) hx hb dX3_letPass_44 (by decide) (fun c_6 => ?_) (fun c_6 => ?_)
          · skip
            have e_7 : (lpS x S n6 n12) = S := by rw [lpS, if_neg c_1, if_neg c_2, if_neg c_3, if_neg c_4, if_pos c_6]
            exact hret _ _ _ _ (by rw [e_7]; exact hP) hS dX3_letPass_52
          · skip
            refine lv_aload_n hx hb dX3_letPass_47 rfl (lv_at hl 0 rfl) ?_
            refine lv_iload_n hx hb dX3_letPass_48 rfl (lv_at hl 1 rfl) ?_
            refine goVw (va_runV (As := [.int x]) (rest := []) ⟨hx, hb, hml, hown, hts⟩ (CtV.use (c_X3_rain l G ca h a S x n12 h12) H.size) (cwV 1 hts gX3_letPass_X3_rain rfl rfl rfl (by decide +kernel) ⟨Nat.le_of_ble_eq_true rfl, Nat.le_of_ble_eq_true rfl⟩) (pcW_V hev hP hD (q0 := 0) rfl rfl rfl) rfl rfl hl.1 rfl (lv_room (Nat.le_of_ble_eq_true rfl)) dX3_letPass_49 ⟨Nat.zero_le _, Nat.zero_le _⟩) hD hS hA stF (fun H locs hP hD hS => ?_)
            have e_8 : (lpS x S n6 n12) = (s_se S, s_br S, (rnL S x n12).1, s_cr S, s_sh S, s_ow S, s_pa S, s_cb S, s_pd S, s_fz S, s_dk S, s_dy S, (rnL S x n12).2.1, s_dr S, (rnL S x n12).2.2.1 + (rnL S x n12).2.2.2) := by rw [lpS, if_neg c_1, if_neg c_2, if_neg c_3, if_neg c_4, if_neg c_6]
            exact hret _ _ _ _ (by rw [e_8]; exact hP) hS dX3_letPass_52
      · skip
        refine lv_aload_n hx hb dX3_letPass_30 rfl (lv_at hl 0 rfl) ?_
        refine goVw (va_runV (As := []) (rest := []) ⟨hx, hb, hml, hown, hts⟩ (CtV.use (c_X3_endDay l G ca h a S n6 n12 h6 h12) H.size) (cwV 0 hts gX3_letPass_X3_endDay rfl rfl rfl (by decide +kernel) ⟨Nat.le_of_ble_eq_true rfl, Nat.le_of_ble_eq_true rfl⟩) (pcW_V hev hP hD (q0 := 0) rfl rfl rfl) rfl rfl hl.1 rfl (lv_room (Nat.le_of_ble_eq_true rfl)) dX3_letPass_31 ⟨Nat.zero_le _, Nat.zero_le _⟩) hD hS hA stF (fun H locs hP hD hS => ?_)
        refine lv_goto (tgt := 52) hx hb dX3_letPass_34 (by decide) ?_
        have e_9 : (lpS x S n6 n12) = (s_se S, s_br S, s_wa S, s_cr S, s_sh S, s_ow S, s_pa S, s_cb S, (edL S n6 n12).2, s_fz S, (edL S n6 n12).1, (s_dy S) + 1, s_fe S, s_dr S, s_dn S) := by rw [lpS, if_neg c_1, if_neg c_2, if_pos c_3]
        exact hret _ _ _ _ (by rw [e_9]; exact hP) hS dX3_letPass_52
    · skip
      refine lv_aload_n hx hb dX3_letPass_17 rfl (lv_at hl 0 rfl) ?_
      refine goVw (va_runV (As := []) (rest := []) ⟨hx, hb, hml, hown, hts⟩ (CtV.use (c_X3_freeze l G ca h a S n12 h12) H.size) (cwV 0 hts gX3_letPass_X3_freeze rfl rfl rfl (by decide +kernel) ⟨Nat.le_of_ble_eq_true rfl, Nat.le_of_ble_eq_true rfl⟩) (pcW_V hev hP hD (q0 := 0) rfl rfl rfl) rfl rfl hl.1 rfl (lv_room (Nat.le_of_ble_eq_true rfl)) dX3_letPass_18 ⟨Nat.zero_le _, Nat.zero_le _⟩) hD hS hA stF (fun H locs hP hD hS => ?_)
      refine lv_goto (tgt := 52) hx hb dX3_letPass_21 (by decide) ?_
      have e_10 : (lpS x S n6 n12) = (s_se S, s_br S, s_wa S, s_cr S, s_sh S, s_ow S, s_pa S, s_cb S, s_pd S, frL S n12, s_dk S, s_dy S, s_fe S, s_dr S, s_dn S) := by rw [lpS, if_neg c_1, if_pos c_2]
      exact hret _ _ _ _ (by rw [e_10]; exact hP) hS dX3_letPass_52
  · skip
    refine lv_aload_n hx hb dX3_letPass_4 rfl (lv_at hl 0 rfl) ?_
    refine goVw (va_runV (As := []) (rest := []) ⟨hx, hb, hml, hown, hts⟩ (CtV.use (c_X3_shine l G ca h a S n12 h12) H.size) (cwV 0 hts gX3_letPass_X3_shine rfl rfl rfl (by decide +kernel) ⟨Nat.le_of_ble_eq_true rfl, Nat.le_of_ble_eq_true rfl⟩) (pcW_V hev hP hD (q0 := 0) rfl rfl rfl) rfl rfl hl.1 rfl (lv_room (Nat.le_of_ble_eq_true rfl)) dX3_letPass_5 ⟨Nat.zero_le _, Nat.zero_le _⟩) hD hS hA stF (fun H locs hP hD hS => ?_)
    refine lv_goto (tgt := 52) hx hb dX3_letPass_8 (by decide) ?_
    have e_11 : (lpS x S n6 n12) = (s_se S, s_br S, (shL S n12).1, s_cr S, s_sh S, s_ow S, s_pa S, s_cb S, s_pd S, 0, s_dk S, s_dy S, s_fe S, (shL S n12).2, s_dn S) := by rw [lpS, if_pos c_1]
    exact hret _ _ _ _ (by rw [e_11]; exact hP) hS dX3_letPass_52
