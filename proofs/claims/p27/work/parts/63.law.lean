/-! the law: its beginning, its end, its loop -/
set_option maxHeartbeats 4000000 in
set_option maxRecDepth 100000 in
theorem law_pre {p : Program} {l : Launch} {e : Env} {s : State} {m : MethodId} {below : List Frame} {meth : Method} {c : Code} {b L : Nat} {xs : Nat → Int32} {G : va_G} {ca : Nat → ClassId} {tL tM : Nat} {B : AD} {Q : State → Prop} {H : Heap} {locs : List Loc} {ls : Array Slot} (C : HC p s m c cL_law #[Value.ref b] wsK_law 13 G ca tL tM (AA s)) (hXs : va_X b L xs s s.heap) (hbl : b < s.heap.size) (hL : L ≤ 260) {F : SS → Int64} (hF : ∀ v : VV, v.2.2.1 = 0 → CtL l yL_seen wsL_seen rmA [.ref B.1.1] G ca tL tM (XV ca B v) (F v.1)) {v : VV} (hR : Ab B v 0 (fun _ => S0c) (fun _ => none)) (hv : v.1 = S0c) (hP : va_P G vwCl (XV ca B v) H) (hD : va_D (AA s) (XV ca B v)) (hS : va_S (AA s) s.heap H locs) (hl : lv_has ls 13 [(1, .ref B.1.1), (0, .ref b)])
    (next : ∀ (v2 : VV) (H : Heap) (locs : List Loc) (ls : Array Slot), LI B 0 v2 0 (fun _ => S0c) (updU (fun _ => none) 1 S0c) → va_P G vwCl (XV ca B v2) H → va_D (AA s) (XV ca B v2) → va_S (AA s) s.heap H locs → lv_has ls 13 [(0, .ref b), (1, .ref B.1.1), (2, .int (nI 1)), (3, .int (nI 0))] → W p l e room_1 s m #[Value.ref b] below meth c H locs 600000 7302250 Q (F0 m 118 ls [])) : W p l e room_1 s m #[Value.ref b] below meth c H locs 600000 7302250 Q (F0 m 8 ls []) := by
  obtain ⟨hx, hb, hml, hown, hts, hev, hX0, hA⟩ := id C
  have h0 := hR.1
  obtain ⟨v2, hv2, hR2, hk2⟩ := k_save (l := l) (G := G) (ca := ca) (tL := tL) (tM := tM) hR (k := 1) (by decide)
  rw [hv] at hR2
  refine lv_aload_n hx hb dL_law_8 rfl (lv_at hl 0 rfl) ?_
  refine h_op (st := []) C hS hP hD hl.1 (k_undo0 hR rfl) (goodIn_ls [] gL_law_X4_undo law_l) rfl hd_undo ⟨Nat.le_of_ble_eq_true rfl, Nat.le_of_ble_eq_true rfl⟩ rfl rfl (Nat.le_of_ble_eq_true rfl) dL_law_9 ⟨Nat.le_of_ble_eq_true rfl, Nat.le_of_ble_eq_true rfl⟩ (fun H locs hP hD hS => ?_)
  refine lv_bipush (v := (-5)) hx hb dL_law_12 (by decide) ?_
  refine lv_icmp_ne (tgt := 114) hx hb dL_law_14 (by decide) (fun c_1 => ?_) (fun c_1 => ?_)
  · skip
    exact absurd (by decide) c_1
  · skip
    refine lv_aload_n hx hb dL_law_17 rfl (lv_at hl 0 rfl) ?_
    refine lv_iconst (v := nI 0) hx hb dL_law_18 (by decide) ?_
    refine h_op (st := []) C hS hP hD hl.1 (k_restore0 hR (k := 0) (by decide) rfl) (goodIn_ls [] gL_law_X4_restore law_l) rfl hd_restore ⟨Nat.le_of_ble_eq_true rfl, Nat.le_of_ble_eq_true rfl⟩ rfl rfl (Nat.le_of_ble_eq_true rfl) dL_law_19 ⟨Nat.le_of_ble_eq_true rfl, Nat.le_of_ble_eq_true rfl⟩ (fun H locs hP hD hS => ?_)
    refine lv_bipush (v := (-5)) hx hb dL_law_22 (by decide) ?_
    refine lv_icmp_ne (tgt := 114) hx hb dL_law_24 (by decide) (fun c_2 => ?_) (fun c_2 => ?_)
    · skip
      exact absurd (by decide) c_2
    · skip
      refine lv_aload_n hx hb dL_law_27 rfl (lv_at hl 0 rfl) ?_
      refine lv_iconst (v := nI 1) hx hb dL_law_28 (by decide) ?_
      refine h_op (st := []) C hS hP hD hl.1 (k_restore0 hR (k := 1) (by decide) rfl) (goodIn_ls [] gL_law_X4_restore law_l) rfl hd_restore ⟨Nat.le_of_ble_eq_true rfl, Nat.le_of_ble_eq_true rfl⟩ rfl rfl (Nat.le_of_ble_eq_true rfl) dL_law_29 ⟨Nat.le_of_ble_eq_true rfl, Nat.le_of_ble_eq_true rfl⟩ (fun H locs hP hD hS => ?_)
      refine lv_bipush (v := (-5)) hx hb dL_law_32 (by decide) ?_
      refine lv_icmp_ne (tgt := 114) hx hb dL_law_34 (by decide) (fun c_3 => ?_) (fun c_3 => ?_)
      · skip
        exact absurd (by decide) c_3
      · skip
        refine lv_aload_n hx hb dL_law_37 rfl (lv_at hl 0 rfl) ?_
        refine lv_iconst (v := nI 0) hx hb dL_law_38 (by decide) ?_
        refine h_op (st := []) C hS hP hD hl.1 (k_count h0 (q := 0) (by decide)) (goodIn_ls [] gL_law_X4_count law_l) rfl hd_count ⟨Nat.le_of_ble_eq_true rfl, Nat.le_of_ble_eq_true rfl⟩ rfl rfl (Nat.le_of_ble_eq_true rfl) dL_law_39 ⟨Nat.le_of_ble_eq_true rfl, Nat.le_of_ble_eq_true rfl⟩ (fun H locs hP hD hS => ?_)
        refine lv_eqi (y := nI 3) ((show s_se v.1 0 = nI 3 by rw [hv]; decide +kernel)) ?_
        refine lv_iconst (v := nI 3) hx hb dL_law_42 (by decide) ?_
        refine lv_icmp_ne (tgt := 114) hx hb dL_law_43 (by decide) (fun c_4 => ?_) (fun c_4 => ?_)
        · skip
          exact absurd (by decide) c_4
        · skip
          refine lv_aload_n hx hb dL_law_46 rfl (lv_at hl 0 rfl) ?_
          refine lv_iconst (v := nI 1) hx hb dL_law_47 (by decide) ?_
          refine h_op (st := []) C hS hP hD hl.1 (k_count h0 (q := 1) (by decide)) (goodIn_ls [] gL_law_X4_count law_l) rfl hd_count ⟨Nat.le_of_ble_eq_true rfl, Nat.le_of_ble_eq_true rfl⟩ rfl rfl (Nat.le_of_ble_eq_true rfl) dL_law_48 ⟨Nat.le_of_ble_eq_true rfl, Nat.le_of_ble_eq_true rfl⟩ (fun H locs hP hD hS => ?_)
          refine lv_eqi (y := nI 2) ((show s_se v.1 1 = nI 2 by rw [hv]; decide +kernel)) ?_
          refine lv_iconst (v := nI 2) hx hb dL_law_51 (by decide) ?_
          refine lv_icmp_ne (tgt := 114) hx hb dL_law_52 (by decide) (fun c_5 => ?_) (fun c_5 => ?_)
          · skip
            exact absurd (by decide) c_5
          · skip
            refine lv_aload_n hx hb dL_law_55 rfl (lv_at hl 0 rfl) ?_
            refine lv_iconst (v := nI 2) hx hb dL_law_56 (by decide) ?_
            refine h_op (st := []) C hS hP hD hl.1 (k_count h0 (q := 2) (by decide)) (goodIn_ls [] gL_law_X4_count law_l) rfl hd_count ⟨Nat.le_of_ble_eq_true rfl, Nat.le_of_ble_eq_true rfl⟩ rfl rfl (Nat.le_of_ble_eq_true rfl) dL_law_57 ⟨Nat.le_of_ble_eq_true rfl, Nat.le_of_ble_eq_true rfl⟩ (fun H locs hP hD hS => ?_)
            refine lv_eqi (y := nI 15) ((show s_se v.1 2 = nI 15 by rw [hv]; decide +kernel)) ?_
            refine lv_bipush (v := nI 15) hx hb dL_law_60 (by decide) ?_
            refine lv_icmp_ne (tgt := 114) hx hb dL_law_62 (by decide) (fun c_6 => ?_) (fun c_6 => ?_)
            · skip
              exact absurd (by decide) c_6
            · skip
              refine lv_aload_n hx hb dL_law_65 rfl (lv_at hl 0 rfl) ?_
              refine lv_iconst (v := nI 3) hx hb dL_law_66 (by decide) ?_
              refine h_op (st := []) C hS hP hD hl.1 (k_count h0 (q := 3) (by decide)) (goodIn_ls [] gL_law_X4_count law_l) rfl hd_count ⟨Nat.le_of_ble_eq_true rfl, Nat.le_of_ble_eq_true rfl⟩ rfl rfl (Nat.le_of_ble_eq_true rfl) dL_law_67 ⟨Nat.le_of_ble_eq_true rfl, Nat.le_of_ble_eq_true rfl⟩ (fun H locs hP hD hS => ?_)
              refine lv_eqi (y := nI 5) ((show s_se v.1 3 = nI 5 by rw [hv]; decide +kernel)) ?_
              refine lv_iconst (v := nI 5) hx hb dL_law_70 (by decide) ?_
              refine lv_icmp_ne (tgt := 114) hx hb dL_law_71 (by decide) (fun c_7 => ?_) (fun c_7 => ?_)
              · skip
                exact absurd (by decide) c_7
              · skip
                refine lv_aload_n hx hb dL_law_74 rfl (lv_at hl 0 rfl) ?_
                refine lv_bipush (v := nI 11) hx hb dL_law_75 (by decide) ?_
                refine lv_iconst (v := nI 0) hx hb dL_law_77 (by decide) ?_
                refine h_op (st := []) C hS hP hD hl.1 (k_puddle (p := 11) (by decide) (q := 0) (by decide)) (goodIn_ls [] gL_law_X4_puddle law_l) rfl hd_puddle ⟨Nat.le_of_ble_eq_true rfl, Nat.le_of_ble_eq_true rfl⟩ rfl rfl (Nat.le_of_ble_eq_true rfl) dL_law_78 ⟨Nat.le_of_ble_eq_true rfl, Nat.le_of_ble_eq_true rfl⟩ (fun H locs hP hD hS => ?_)
                refine lv_eqi (y := nI 20) ((show s_br v.1 11 = nI 20 by rw [hv]; decide +kernel)) ?_
                refine lv_bipush (v := nI 20) hx hb dL_law_81 (by decide) ?_
                refine lv_icmp_ne (tgt := 114) hx hb dL_law_83 (by decide) (fun c_8 => ?_) (fun c_8 => ?_)
                · skip
                  exact absurd (by decide) c_8
                · skip
                  refine lv_aload_n hx hb dL_law_86 rfl (lv_at hl 0 rfl) ?_
                  refine lv_iconst (v := nI 0) hx hb dL_law_87 (by decide) ?_
                  refine h_st (st := []) C hS hP hD hl.1 (c_L_refuses l G ca tL tM B v 0 _ _ F hF 0 (by decide) hR) gK_law_refuses rfl rfl rfl hd_L_refuses ⟨Nat.le_of_ble_eq_true rfl, Nat.le_of_ble_eq_true rfl⟩ rfl rfl (Nat.le_of_ble_eq_true rfl) dL_law_88 ⟨Nat.le_of_ble_eq_true rfl, Nat.le_of_ble_eq_true rfl⟩ (fun H locs hP hD hS => ?_)
                  refine lv_if_eq (tgt := 114) hx hb dL_law_91 (by decide) (fun c_9 => ?_) (fun c_9 => ?_)
                  · skip
                    exact absurd c_9 (by decide)
                  · skip
                    refine lv_aload_n hx hb dL_law_94 rfl (lv_at hl 0 rfl) ?_
                    refine lv_iconst (v := nI 1) hx hb dL_law_95 (by decide) ?_
                    refine h_st (st := []) C hS hP hD hl.1 (c_L_refuses l G ca tL tM B v 0 _ _ F hF 1 (by decide) hR) gK_law_refuses rfl rfl rfl hd_L_refuses ⟨Nat.le_of_ble_eq_true rfl, Nat.le_of_ble_eq_true rfl⟩ rfl rfl (Nat.le_of_ble_eq_true rfl) dL_law_96 ⟨Nat.le_of_ble_eq_true rfl, Nat.le_of_ble_eq_true rfl⟩ (fun H locs hP hD hS => ?_)
                    refine lv_if_eq (tgt := 114) hx hb dL_law_99 (by decide) (fun c_10 => ?_) (fun c_10 => ?_)
                    · skip
                      exact absurd c_10 (by decide)
                    · skip
                      refine lv_aload_n hx hb dL_law_102 rfl (lv_at hl 0 rfl) ?_
                      refine lv_iconst (v := nI 1) hx hb dL_law_103 (by decide) ?_
                      refine h_op (st := []) C hS hP hD hl.1 (hk2) (goodIn_ls [] gL_law_X4_save law_l) rfl hd_save ⟨Nat.le_of_ble_eq_true rfl, Nat.le_of_ble_eq_true rfl⟩ rfl rfl (Nat.le_of_ble_eq_true rfl) dL_law_104 ⟨Nat.le_of_ble_eq_true rfl, Nat.le_of_ble_eq_true rfl⟩ (fun H locs hP hD hS => ?_)
                      refine lv_eqi (y := nI 0) ((show s_dy v.1 = nI 0 by rw [hv]; rfl)) ?_
                      refine lv_if_ne (tgt := 114) hx hb dL_law_107 (by decide) (fun c_11 => ?_) (fun c_11 => ?_)
                      · skip
                        exact absurd (by decide) c_11
                      · skip
                        refine lv_iconst (v := nI 1) hx hb dL_law_110 (by decide) ?_
                        refine lv_goto (tgt := 115) hx hb dL_law_111 (by decide) ?_
                        refine lv_istore_n (lv' := [(2, .int (nI 1)), (1, .ref B.1.1), (0, .ref b)]) hx hb dL_law_115 rfl hl (by decide) rfl (fun ls hl => ?_)
                        refine lv_iconst (v := nI 0) hx hb dL_law_116 (by decide) ?_
                        refine lv_istore_n (lv' := [(3, .int (nI 0)), (2, .int (nI 1)), (1, .ref B.1.1), (0, .ref b)]) hx hb dL_law_117 rfl hl (by decide) rfl (fun ls hl => ?_)
                        exact next v2 _ _ _ ⟨hR2, ⟨N0c, by rw [hv2, hv]; exact Rn0, Bd0⟩, fun j hj => absurd hj (Nat.not_lt_zero j), rfl, fun X q => (by cases q)⟩ hP hD hS (lv_sub hl [3, 2, 1, 0] rfl)
set_option maxHeartbeats 4000000 in
set_option maxRecDepth 100000 in
theorem law_end {p : Program} {l : Launch} {e : Env} {s : State} {m : MethodId} {below : List Frame} {meth : Method} {c : Code} {b L : Nat} {xs : Nat → Int32} {G : va_G} {ca : Nat → ClassId} {tL tM : Nat} {B : AD} {Q : State → Prop} {H : Heap} {locs : List Loc} {ls : Array Slot} (C : HC p s m c cL_law #[Value.ref b] wsK_law 13 G ca tL tM (AA s)) (hXs : va_X b L xs s s.heap) (hbl : b < s.heap.size) (hL : L ≤ 260) {F : SS → Int64} (hF : ∀ v : VV, v.2.2.1 = 0 → CtL l yL_seen wsL_seen rmA [.ref B.1.1] G ca tL tM (XV ca B v) (F v.1)) {v : VV} {n : Nat} {hs : Nat → SS} {u : Nat → Option SS} {i : Nat} (hi : i ≤ 80) (hI : LI B i v n hs u) (hP : va_P G vwCl (XV ca B v) H) (hD : va_D (AA s) (XV ca B v)) (hS : va_S (AA s) s.heap H locs) (hl : lv_has ls 13 [(0, .ref b), (1, .ref B.1.1), (2, .int (nI 1)), (3, .int (nI i))])
    (fin : ∀ (H : Heap) (locs : List Loc) (ls : Array Slot), va_S (AA s) s.heap H locs → W p l e room_1 s m #[Value.ref b] below meth c H locs 600000 7302250 Q (F0 m 401 ls [.int (nI 1)])) : W p l e room_1 s m #[Value.ref b] below meth c H locs 600000 7302250 Q (F0 m 361 ls []) := by
  obtain ⟨hx, hb, hml, hown, hts, hev, hX0, hA⟩ := id C
  have hR := hI.1
  have hrec := recN_2 n hR.n6
  obtain ⟨v5, hv5, hR5, hk5⟩ := k_restore (l := l) (G := G) (ca := ca) (tL := tL) (tM := tM) hR (k := 1) (by decide) hI.2.2.2.1
  obtain ⟨v6, hv6, hR6, hk6⟩ := k_undo (l := l) (G := G) (ca := ca) (tL := tL) (tM := tM) hR5 (by omega)
  have hv6 : v6.1 = v.1 := hv6
  obtain ⟨N, h, bd⟩ : Gd i v6.1 := by rw [hv6]; exact hI.2.1
  refine lv_iload_n hx hb dL_law_361 rfl (lv_at hl 2 rfl) ?_
  refine lv_if_eq (tgt := 400) hx hb dL_law_362 (by decide) (fun c_1 => ?_) (fun c_1 => ?_)
  · skip
    exact absurd c_1 (by decide)
  · skip
    refine lv_aload_n hx hb dL_law_365 rfl (lv_at hl 1 rfl) ?_
    refine lv_iconst (v := nI 1) hx hb dL_law_366 (by decide) ?_
    refine h_op (st := []) C hS hP hD hl.1 (hk5) (goodIn_ls [] gL_law_X4_restore law_l) rfl hd_restore ⟨Nat.le_of_ble_eq_true rfl, Nat.le_of_ble_eq_true rfl⟩ rfl rfl (Nat.le_of_ble_eq_true rfl) dL_law_367 ⟨Nat.le_of_ble_eq_true rfl, Nat.le_of_ble_eq_true rfl⟩ (fun H locs hP hD hS => ?_)
    refine lv_eqi (y := nI 0) (rfl) ?_
    refine lv_if_ne (tgt := 400) hx hb dL_law_370 (by decide) (fun c_2 => ?_) (fun c_2 => ?_)
    · skip
      exact absurd (by decide) c_2
    · skip
      refine lv_aload_n hx hb dL_law_373 rfl (lv_at hl 1 rfl) ?_
      refine lv_bipush (v := nI 6) hx hb dL_law_374 (by decide) ?_
      refine h_op (st := []) C hS hP hD hl.1 (k_count hR5.1 (q := 6) (by decide)) (goodIn_ls [] gL_law_X4_count law_l) rfl hd_count ⟨Nat.le_of_ble_eq_true rfl, Nat.le_of_ble_eq_true rfl⟩ rfl rfl (Nat.le_of_ble_eq_true rfl) dL_law_376 ⟨Nat.le_of_ble_eq_true rfl, Nat.le_of_ble_eq_true rfl⟩ (fun H locs hP hD hS => ?_)
      refine lv_eqi (y := nI 0) ((show s_fe v5.1 = nI 0 by rw [hv5]; rfl)) ?_
      refine lv_if_ne (tgt := 400) hx hb dL_law_379 (by decide) (fun c_3 => ?_) (fun c_3 => ?_)
      · skip
        exact absurd (by decide) c_3
      · skip
        refine lv_aload_n hx hb dL_law_382 rfl (lv_at hl 1 rfl) ?_
        refine h_op (st := []) C hS hP hD hl.1 (hk6) (goodIn_ls [] gL_law_X4_undo law_l) rfl hd_undo ⟨Nat.le_of_ble_eq_true rfl, Nat.le_of_ble_eq_true rfl⟩ rfl rfl (Nat.le_of_ble_eq_true rfl) dL_law_383 ⟨Nat.le_of_ble_eq_true rfl, Nat.le_of_ble_eq_true rfl⟩ (fun H locs hP hD hS => ?_)
        refine lv_if_lt (tgt := 400) hx hb dL_law_386 (by decide) (fun c_4 => ?_) (fun c_4 => ?_)
        · skip
          exact absurd c_4 (nI_nlt (a := (recN n - 1)) (b := 0) (by omega) (by omega))
        · skip
          refine lv_aload_n hx hb dL_law_389 rfl (lv_at hl 1 rfl) ?_
          refine h_st (st := []) C hS hP hD hl.1 (c_L_areAll l G ca tL tM B v6 N i 12 6 rfl rfl (by omega) hR6.1 h bd) gK_law_areAll rfl rfl rfl hd_L_areAll ⟨Nat.le_of_ble_eq_true rfl, Nat.le_of_ble_eq_true rfl⟩ rfl rfl (Nat.le_of_ble_eq_true rfl) dL_law_390 ⟨Nat.le_of_ble_eq_true rfl, Nat.le_of_ble_eq_true rfl⟩ (fun H locs hP hD hS => ?_)
          refine lv_if_eq (tgt := 400) hx hb dL_law_393 (by decide) (fun c_5 => ?_) (fun c_5 => ?_)
          · skip
            exact absurd c_5 (by decide)
          · skip
            refine lv_iconst (v := nI 1) hx hb dL_law_396 (by decide) ?_
            refine lv_goto (tgt := 401) hx hb dL_law_397 (by decide) ?_
            exact fin _ _ _ hS
set_option maxHeartbeats 4000000 in
set_option maxRecDepth 100000 in
theorem law_loop {p : Program} {l : Launch} {e : Env} {s : State} {m : MethodId} {below : List Frame} {meth : Method} {c : Code} {b L : Nat} {xs : Nat → Int32} {G : va_G} {ca : Nat → ClassId} {tL tM : Nat} {B : AD} {Q : State → Prop} (C : HC p s m c cL_law #[Value.ref b] wsK_law 13 G ca tL tM (AA s)) (hXs : va_X b L xs s s.heap) (hbl : b < s.heap.size) (hL : L ≤ 260) {F : SS → Int64} (hF : ∀ v : VV, v.2.2.1 = 0 → CtL l yL_seen wsL_seen rmA [.ref B.1.1] G ca tL tM (XV ca B v) (F v.1)) (fin : ∀ (H : Heap) (locs : List Loc) (ls : Array Slot), va_S (AA s) s.heap H locs → W p l e room_1 s m #[Value.ref b] below meth c H locs 600000 7302250 Q (F0 m 401 ls [.int (nI 1)])) :
    ∀ (k i : Nat) (v : VV) (n : Nat) (hs : Nat → SS) (u : Nat → Option SS) (H : Heap) (locs : List Loc) (ls : Array Slot), i + k = 80 → LI B i v n hs u → va_P G vwCl (XV ca B v) H → va_D (AA s) (XV ca B v) → va_S (AA s) s.heap H locs → lv_has ls 13 [(0, .ref b), (1, .ref B.1.1), (2, .int (nI 1)), (3, .int (nI i))] → W p l e room_1 s m #[Value.ref b] below meth c H locs 600000 7302250 Q (F0 m 118 ls []) := by
  obtain ⟨hx, hb, hml, hown, hts, hev, hX0, hA⟩ := id C
  intro k
  induction k with
  | zero =>
    intro i v n hs u H locs ls hi hI hP hD hS hl
    refine lv_iload_n hx hb dL_law_118 rfl (lv_at hl 3 rfl) ?_
    refine lv_bipush (v := nI 80) hx hb dL_law_119 (by decide) ?_
    refine lv_icmp_ge (tgt := 361) hx hb dL_law_121 (by decide) (fun c_1 => ?_) (fun c_1 => ?_)
    · exact law_end C hXs hbl hL hF (by omega) hI hP hD hS hl fin
    · exact absurd (nI_le (a := 80) (b := i) (by omega) (by omega)) c_1
  | succ k ih =>
    intro i v n hs u H locs ls hi hI hP hD hS hl
    refine lv_iload_n hx hb dL_law_118 rfl (lv_at hl 3 rfl) ?_
    refine lv_bipush (v := nI 80) hx hb dL_law_119 (by decide) ?_
    refine lv_icmp_ge (tgt := 361) hx hb dL_law_121 (by decide) (fun c_1 => ?_) (fun c_1 => ?_)
    · exact absurd c_1 (nI_ge (a := i) (b := 80) (by omega) (by omega))
    refine lv_iload_n hx hb dL_law_124 rfl (lv_at hl 2 rfl) ?_
    refine lv_if_eq (tgt := 361) hx hb dL_law_125 (by decide) (fun c_2 => ?_) (fun c_2 => ?_)
    · exact absurd c_2 (by decide)
    obtain ⟨X, hX31, hX⟩ := cel_N L xs i
    have back : ∀ (v2 : VV) (n2 : Nat) (hs2 : Nat → SS) (u2 : Nat → Option SS) (H : Heap) (locs : List Loc) (ls : Array Slot), LI B (i + 1) v2 n2 hs2 u2 → va_P G vwCl (XV ca B v2) H → va_D (AA s) (XV ca B v2) → va_S (AA s) s.heap H locs → lv_has ls 13 [(0, .ref b), (1, .ref B.1.1), (2, .int (nI 1)), (3, .int (nI i))] → W p l e room_1 s m #[Value.ref b] below meth c H locs 600000 7302250 Q (F0 m 355 ls []) := by
      intro v2 n2 hs2 u2 H locs ls hI2 hP hD hS hl
      refine lv_iinc (v := nI (i + 1)) (lv' := [(3, .int (nI (i + 1))), (0, .ref b), (1, .ref B.1.1), (2, .int (nI 1))]) hx hb dL_law_355 hl (k := 3) rfl (nI_1 _) (by decide) rfl (fun ls hl => ?_)
      refine lv_goto (tgt := 118) hx hb dL_law_358 (by decide) ?_
      exact ih (i + 1) v2 n2 hs2 u2 H locs ls (by omega) hI2 hP hD hS (lv_sub hl [1, 2, 3, 0] rfl)
    obtain ⟨N, h, bd⟩ := hI.2.1
    rcases c_L_act l G ca tL tM B v n hs u N i (by omega) hI.1 h bd X hX31 with hk | ⟨v1, hg1, hR1, hk⟩
    · exact law_step0 C hXs hbl hL hF (by omega) hX31 hX hI hk hP hD hS hl back
    · exact law_step1 C hXs hbl hL hF (by omega) hX31 hX hI hg1 hR1 hk hP hD hS hl back
