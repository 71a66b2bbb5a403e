set_option maxHeartbeats 4000000 in
set_option maxRecDepth 100000 in
theorem c_L_refuses (l : Launch) (G : va_G) (ca : Nat → ClassId) (tL tM : Nat) (B : AD) (v : VV) (n : Nat) (hs : Nat → SS) (u : Nat → Option SS) (F : SS → Int64) (hF : ∀ v : VV, v.2.2.1 = 0 → CtL l yL_seen wsL_seen rmA [.ref B.1.1] G ca tL tM (XV ca B v) (F v.1)) (X : Nat) (hXb : X < 2 ^ 31) (hR : Ab B v n hs u) : CtS l yL_refuses wsK_refuses rmB [.ref B.1.1, .int (nI X)] G ca tL tM (XV ca B v) (XV ca B v) (nI 1) := by
  have h0 := hR.1
  have hn6 := hR.n6
  refine CtS.ofW (cc := cL_refuses) (maxL := 5) (rt := .boolean) (by decide) rfl (Nat.le_of_ble_eq_true rfl) rfl ?_
  intro pr en s m be me c A ls Q H hx hb hml hts hown hev hP hD hA hS hl hX hret
  have C : HC pr s m c cL_refuses ([.ref B.1.1, .int (nI X)] : List Value).toArray wsK_refuses 5 G ca tL tM A := ⟨hx, hb, hml, hown, hts, hev, hX, hA⟩
  have hown : s.vm.findClass RL = some m.cls := hown
  have hl : lv_has ls 5 [(0, .ref B.1.1), (1, .int (nI X))] := hl
  refine lv_aload_n hx hb dL_refuses_0 rfl (lv_at hl 0 rfl) ?_
  refine h_sl (st := []) C hS hP hD hl.1 (hF _ h0) gK_refuses_seen rfl rfl rfl hd_L_seen ⟨Nat.le_of_ble_eq_true rfl, Nat.le_of_ble_eq_true rfl⟩ rfl rfl (Nat.le_of_ble_eq_true rfl) dL_refuses_1 ⟨Nat.le_of_ble_eq_true rfl, Nat.le_of_ble_eq_true rfl⟩ (fun H locs hP hD hS => ?_)
  refine lv_lstore_n (lv' := [(2, .long (F v.1)), (0, .ref B.1.1), (1, .int (nI X))]) hx hb dL_refuses_4 rfl hl (by decide) rfl (fun ls hl => ?_)
  refine lv_aload_n hx hb dL_refuses_5 rfl (lv_at hl 1 rfl) ?_
  refine lv_bipush (v := nI 15) hx hb dL_refuses_6 (by decide) ?_
  refine h_op (st := []) C hS hP hD hl.1 (k_states hR) gK_refuses_X4_count rfl hd_count ⟨Nat.le_of_ble_eq_true rfl, Nat.le_of_ble_eq_true rfl⟩ rfl rfl (Nat.le_of_ble_eq_true rfl) dL_refuses_8 ⟨Nat.le_of_ble_eq_true rfl, Nat.le_of_ble_eq_true rfl⟩ (fun H locs hP hD hS => ?_)
  refine lv_istore (lv' := [(4, .int (nI n)), (2, .long (F v.1)), (0, .ref B.1.1), (1, .int (nI X))]) hx hb dL_refuses_11 hl (by decide) rfl (fun ls hl => ?_)
  refine lv_aload_n hx hb dL_refuses_13 rfl (lv_at hl 2 rfl) ?_
  refine lv_iload_n hx hb dL_refuses_14 rfl (lv_at hl 3 rfl) ?_
  refine h_st (st := []) C hS hP hD hl.1 (c_L_refusesAny l G ca tL tM B v X hXb h0) gK_refuses_refusesAny rfl rfl rfl hd_L_refusesAny ⟨Nat.le_of_ble_eq_true rfl, Nat.le_of_ble_eq_true rfl⟩ rfl rfl (Nat.le_of_ble_eq_true rfl) dL_refuses_15 ⟨Nat.le_of_ble_eq_true rfl, Nat.le_of_ble_eq_true rfl⟩ (fun H locs hP hD hS => ?_)
  refine lv_if_eq (tgt := 45) hx hb dL_refuses_18 (by decide) (fun c_1 => ?_) (fun c_1 => ?_)
  · skip
    exact absurd c_1 (by decide)
  · skip
    refine lv_aload_n hx hb dL_refuses_21 rfl (lv_at hl 2 rfl) ?_
    refine h_sl (st := []) C hS hP hD hl.1 (hF _ h0) gK_refuses_seen rfl rfl rfl hd_L_seen ⟨Nat.le_of_ble_eq_true rfl, Nat.le_of_ble_eq_true rfl⟩ rfl rfl (Nat.le_of_ble_eq_true rfl) dL_refuses_22 ⟨Nat.le_of_ble_eq_true rfl, Nat.le_of_ble_eq_true rfl⟩ (fun H locs hP hD hS => ?_)
    refine lv_lload_n hx hb dL_refuses_25 rfl (lv_at hl 1 rfl) ?_
    refine W.lcmp hx hb dL_refuses_26 ?_
    refine lv_if_ne (tgt := 45) hx hb dL_refuses_27 (by decide) (fun c_2 => ?_) (fun c_2 => ?_)
    · skip
      exact absurd ((lg_cmp_eq _ _).mpr rfl) c_2
    · skip
      refine lv_aload_n hx hb dL_refuses_30 rfl (lv_at hl 2 rfl) ?_
      refine lv_bipush (v := nI 15) hx hb dL_refuses_31 (by decide) ?_
      refine h_op (st := []) C hS hP hD hl.1 (k_states hR) gK_refuses_X4_count rfl hd_count ⟨Nat.le_of_ble_eq_true rfl, Nat.le_of_ble_eq_true rfl⟩ rfl rfl (Nat.le_of_ble_eq_true rfl) dL_refuses_33 ⟨Nat.le_of_ble_eq_true rfl, Nat.le_of_ble_eq_true rfl⟩ (fun H locs hP hD hS => ?_)
      refine lv_iload hx hb dL_refuses_36 (lv_at hl 0 rfl) ?_
      refine lv_icmp_ne (tgt := 45) hx hb dL_refuses_38 (by decide) (fun c_3 => ?_) (fun c_3 => ?_)
      · skip
        exact absurd ((nI_eq (a := n) (b := n) (by omega) (by omega)).mpr (by omega)) c_3
      · skip
        refine lv_iconst (v := nI 1) hx hb dL_refuses_41 (by decide) ?_
        refine lv_goto (tgt := 46) hx hb dL_refuses_42 (by decide) ?_
        exact hret _ _ _ _ hP hS dL_refuses_46
