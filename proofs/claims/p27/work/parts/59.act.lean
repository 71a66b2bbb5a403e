/-! the law's helper act -/
theorem cnt_se {S : SS} {k : Nat} (hk : k < 4) : cntA S k = s_se S k := by
  rcases (show k = 0 ∨ k = 1 ∨ k = 2 ∨ k = 3 by omega) with rfl | rfl | rfl | rfl <;> rfl
theorem set_in {k q : Nat} (hk : k < 4) (h0 : k < 2 → q ≤ 20) (h2 : k = 2 → 1 ≤ q ∧ q ≤ 99) (h3 : k = 3 → 1 ≤ q ∧ q ≤ 30) : ¬ nI q < lst4 k ∧ nI q ≤ mst4 k := by
  rcases (show k = 0 ∨ k = 1 ∨ k = 2 ∨ k = 3 by omega) with rfl | rfl | rfl | rfl
  · have := h0 (by omega); exact ⟨nI_pos (by omega), nI_le (b := 20) (by omega) (by omega)⟩
  · have := h0 (by omega); exact ⟨nI_pos (by omega), nI_le (b := 20) (by omega) (by omega)⟩
  · have := h2 rfl; exact ⟨nI_nlt (b := 1) (by omega) (by omega), nI_le (b := 99) (by omega) (by omega)⟩
  · have := h3 rfl; exact ⟨nI_nlt (b := 1) (by omega) (by omega), nI_le (b := 30) (by omega) (by omega)⟩
theorem has_set {S : SS} {N : NN} {bd : Nat} (h : Rn S N) (b : Bd bd N) {w p : Nat} : ¬ hasP (upd (s_pd S) (w * 12 + p) (s_se S 3)) w p = 0 := by
  have := b.s3
  unfold hasP
  rw [upd_at, h.se 3 (by omega), if_neg (nI_nle (by omega) (by omega))]
  decide
theorem hld_set {S : SS} {N : NN} {bd : Nat} (h : Rn S N) (b : Bd bd N) {w p : Nat} : hldA (s_se S, s_br S, s_wa S, s_cr S, s_sh S, s_ow S, s_pa S, s_cb S, upd (s_pd S) (w * 12 + p) (s_se S 3), s_fz S, s_dk S, s_dy S, s_fe S, s_dr S, s_dn S) w p = nI (n_se N 3) := by
  have := b.s3
  show (if upd (s_pd S) (w * 12 + p) (s_se S 3) (w * 12 + p) ≤ 0 then (-6) else upd (s_pd S) (w * 12 + p) (s_se S 3) (w * 12 + p)) = nI (n_se N 3)
  rw [upd_at, h.se 3 (by omega), if_neg (nI_nle (by omega) (by omega))]
theorem why_set {S : SS} {N : NN} {bd : Nat} (h : Rn S N) (b : Bd bd N) {w p : Nat} (x : Int32) (hd : bt1 (s_dk S) p = 0) : rsnA (s_se S, s_br S, s_wa S, s_cr S, s_sh S, s_ow S, s_pa S, s_cb S, upd (s_pd S) (w * 12 + p) (s_se S 3), s_fz S, s_dk S, s_dy S, s_fe S, s_dr S, s_dn S) w p x = nI 0 := by
  show (if bt1 (s_dk S) p = 0 then (if hasP (upd (s_pd S) (w * 12 + p) (s_se S 3)) w p = 0 then _ else 0) else 1) = nI 0
  rw [if_pos hd, if_neg (has_set h b)]
  rfl
theorem passes_any (l : Launch) (G : va_G) (ca : Nat → ClassId) (tL tM : Nat) (B : AD) (v : VV) (n : Nat) (hs : Nat → SS) (u : Nat → Option SS) (N : NN) (bd : Nat) (hbd : bd ≤ 100) (hR : Ab B v n hs u) (h : Rn v.1 N) (b : Bd bd N) (x : Nat) (hx : x ≤ 11) : ∃ v1 : VV, Gd (bd + 1) v1.1 ∧ Ab B v1 (recN n) (consS v.1 hs) u ∧ CtS l yL_passes wsL_passes rmA [.ref B.1.1, .int (nI x)] G ca tL tM (XV ca B v) (XV ca B v1) (nI 1) := by
  by_cases c0 : x = 0
  · subst c0; exact c_L_passes_sun l G ca tL tM B v n hs u N bd hbd hR h b
  by_cases c1 : x = 10
  · subst c1; exact c_L_passes_frost l G ca tL tM B v n hs u N bd hbd hR h b
  by_cases c2 : x = 11
  · subst c2; exact c_L_passes_end l G ca tL tM B v n hs u N bd hbd hR h b
  · exact c_L_passes_rain l G ca tL tM B v n hs u N bd hbd hR h b x (by omega) (by omega)
set_option maxHeartbeats 4000000 in
set_option maxRecDepth 100000 in
theorem c_L_act_pass (l : Launch) (G : va_G) (ca : Nat → ClassId) (tL tM : Nat) (B : AD) (v : VV) (n : Nat) (hs : Nat → SS) (u : Nat → Option SS) (N : NN) (bd : Nat) (hbd : bd ≤ 100) (hR : Ab B v n hs u) (h : Rn v.1 N) (b : Bd bd N) (X : Nat) (hX : X < 2 ^ 31) (hhow : X % 16 < 7) : ∃ v1 : VV, Gd (bd + 1) v1.1 ∧ Ab B v1 (recN n) (consS v.1 hs) u ∧ CtS l yL_act wsK_act rmB [.ref B.1.1, .int (nI X)] G ca tL tM (XV ca B v) (XV ca B v1) (nI 1) := by
  have h0 := hR.1
  obtain ⟨wx, hwx⟩ : ∃ wx, wx = if X / 16 % 8 < 4 then 1 + X / 16 / 8 % 9 else if X / 16 % 8 = 4 then 0 else if X / 16 % 8 = 5 then 10 else 11 := ⟨_, rfl⟩
  have hwl : wx ≤ 11 := by rw [hwx]; split <;> (try split) <;> (try split) <;> omega
  obtain ⟨v1, g, hR1, hk⟩ := passes_any l G ca tL tM B v n hs u N bd hbd hR h b wx hwl
  refine ⟨v1, g, hR1, ?_⟩
  refine CtS.ofW (cc := cL_act) (maxL := 11) (rt := .int) (by decide) rfl (Nat.le_of_ble_eq_true rfl) rfl ?_
  intro pr en s m be me c A ls Q H hx hb hml hts hown hev hP hD hA hS hl hX hret
  have C : HC pr s m c cL_act ([.ref B.1.1, .int (nI X)] : List Value).toArray wsK_act 11 G ca tL tM A := ⟨hx, hb, hml, hown, hts, hev, hX, hA⟩
  have hown : s.vm.findClass RL = some m.cls := hown
  have hl : lv_has ls 11 [(0, .ref B.1.1), (1, .int (nI X))] := hl
  refine lv_iload_n hx hb dL_act_0 rfl (lv_at hl 1 rfl) ?_
  refine lv_bipush (v := nI 16) hx hb dL_act_1 (by decide) ?_
  refine lv_irem hx hb dL_act_3 (by decide) ?_
  refine lv_eqi (pk_rem (by omega) (by omega) (by omega)) ?_
  refine lv_istore_n (lv' := [(2, .int (nI (X % 16))), (0, .ref B.1.1), (1, .int (nI X))]) hx hb dL_act_4 rfl hl (by decide) rfl (fun ls hl => ?_)
  refine lv_iload_n hx hb dL_act_5 rfl (lv_at hl 2 rfl) ?_
  refine lv_bipush (v := nI 16) hx hb dL_act_6 (by decide) ?_
  refine lv_idiv hx hb dL_act_8 (by decide) ?_
  refine lv_eqi (pk_div (by omega) (by omega) (by omega)) ?_
  refine lv_istore_n (lv' := [(3, .int (nI (X / 16))), (2, .int (nI (X % 16))), (0, .ref B.1.1), (1, .int (nI X))]) hx hb dL_act_9 rfl hl (by decide) rfl (fun ls hl => ?_)
  refine lv_iload_n hx hb dL_act_10 rfl (lv_at hl 0 rfl) ?_
  refine lv_bipush (v := nI 12) hx hb dL_act_11 (by decide) ?_
  refine lv_irem hx hb dL_act_13 (by decide) ?_
  refine lv_eqi (pk_rem (by omega) (by omega) (by omega)) ?_
  refine lv_istore (lv' := [(4, .int (nI ((X / 16) % 12))), (3, .int (nI (X / 16))), (2, .int (nI (X % 16))), (0, .ref B.1.1), (1, .int (nI X))]) hx hb dL_act_14 hl (by decide) rfl (fun ls hl => ?_)
  refine lv_iload_n hx hb dL_act_16 rfl (lv_at hl 1 rfl) ?_
  refine lv_bipush (v := nI 12) hx hb dL_act_17 (by decide) ?_
  refine lv_idiv hx hb dL_act_19 (by decide) ?_
  refine lv_eqi (pk_div (by omega) (by omega) (by omega)) ?_
  refine lv_bipush (v := nI 6) hx hb dL_act_20 (by decide) ?_
  refine lv_irem hx hb dL_act_22 (by decide) ?_
  refine lv_eqi (pk_rem (by omega) (by omega) (by omega)) ?_
  refine lv_istore (lv' := [(5, .int (nI (((X / 16) / 12) % 6))), (4, .int (nI ((X / 16) % 12))), (3, .int (nI (X / 16))), (2, .int (nI (X % 16))), (0, .ref B.1.1), (1, .int (nI X))]) hx hb dL_act_23 hl (by decide) rfl (fun ls hl => ?_)
  refine lv_iload_n hx hb dL_act_25 rfl (lv_at hl 3 rfl) ?_
  refine lv_bipush (v := nI 7) hx hb dL_act_26 (by decide) ?_
  refine lv_icmp_ge (tgt := 92) hx hb dL_act_28 (by decide) (fun c_1 => ?_) (fun c_1 => ?_)
  · skip
    exact absurd c_1 (nI_ge (a := (X % 16)) (b := 7) (by omega) (by omega))
  · skip
    refine lv_aload_n hx hb dL_act_31 rfl (lv_at hl 4 rfl) ?_
    refine lv_iload_n hx hb dL_act_32 rfl (lv_at hl 2 rfl) ?_
    refine lv_bipush (v := nI 8) hx hb dL_act_33 (by decide) ?_
    refine lv_irem hx hb dL_act_35 (by decide) ?_
    refine lv_eqi (pk_rem (by omega) (by omega) (by omega)) ?_
    refine lv_iconst (v := nI 4) hx hb dL_act_36 (by decide) ?_
    refine lv_icmp_ge (tgt := 52) hx hb dL_act_37 (by decide) (fun c_2 => ?_) (fun c_2 => ?_)
    · skip
      have nc_2 : 4 ≤ ((X / 16) % 8) := (nI_leI (a := 4) (b := ((X / 16) % 8)) (by omega) (by omega)).mp c_2
      refine lv_iload_n hx hb dL_act_52 rfl (lv_at hl 2 rfl) ?_
      refine lv_bipush (v := nI 8) hx hb dL_act_53 (by decide) ?_
      refine lv_irem hx hb dL_act_55 (by decide) ?_
      refine lv_eqi (pk_rem (by omega) (by omega) (by omega)) ?_
      refine lv_iconst (v := nI 4) hx hb dL_act_56 (by decide) ?_
      refine lv_icmp_ne (tgt := 64) hx hb dL_act_57 (by decide) (fun c_3 => ?_) (fun c_3 => ?_)
      · skip
        have nc_3 : ¬ ((X / 16) % 8) = 4 := fun q => c_3 ((nI_eq (a := ((X / 16) % 8)) (b := 4) (by omega) (by omega)).mpr q)
        refine lv_iload_n hx hb dL_act_64 rfl (lv_at hl 2 rfl) ?_
        refine lv_bipush (v := nI 8) hx hb dL_act_65 (by decide) ?_
        refine lv_irem hx hb dL_act_67 (by decide) ?_
        refine lv_eqi (pk_rem (by omega) (by omega) (by omega)) ?_
        refine lv_iconst (v := nI 5) hx hb dL_act_68 (by decide) ?_
        refine lv_icmp_ne (tgt := 77) hx hb dL_act_69 (by decide) (fun c_4 => ?_) (fun c_4 => ?_)
        · skip
          have nc_4 : ¬ ((X / 16) % 8) = 5 := fun q => c_4 ((nI_eq (a := ((X / 16) % 8)) (b := 5) (by omega) (by omega)).mpr q)
          refine lv_bipush (v := nI 11) hx hb dL_act_77 (by decide) ?_
          refine lv_eqi (y := nI wx) (congrArg nI (by rw [hwx]; split <;> (try split) <;> (try split) <;> omega)) ?_
          refine h_st (st := []) C hS hP hD hl.1 (hk) gK_act_passes rfl rfl rfl hd_L_passes ⟨Nat.le_of_ble_eq_true rfl, Nat.le_of_ble_eq_true rfl⟩ rfl rfl (Nat.le_of_ble_eq_true rfl) dL_act_79 ⟨Nat.le_of_ble_eq_true rfl, Nat.le_of_ble_eq_true rfl⟩ (fun H locs hP hD hS => ?_)
          refine lv_if_eq (tgt := 89) hx hb dL_act_82 (by decide) (fun c_5 => ?_) (fun c_5 => ?_)
          · skip
            exact absurd c_5 (by decide)
          · skip
            refine lv_iconst (v := nI 1) hx hb dL_act_85 (by decide) ?_
            refine lv_goto (tgt := 91) hx hb dL_act_86 (by decide) ?_
            exact hret _ _ _ _ hP hS dL_act_91
        · skip
          have nc_4 : ((X / 16) % 8) = 5 := (nI_eq (a := ((X / 16) % 8)) (b := 5) (by omega) (by omega)).mp c_4
          refine lv_bipush (v := nI 10) hx hb dL_act_72 (by decide) ?_
          refine lv_goto (tgt := 79) hx hb dL_act_74 (by decide) ?_
          refine lv_eqi (y := nI wx) (congrArg nI (by rw [hwx]; split <;> (try split) <;> (try split) <;> omega)) ?_
          refine h_st (st := []) C hS hP hD hl.1 (hk) gK_act_passes rfl rfl rfl hd_L_passes ⟨Nat.le_of_ble_eq_true rfl, Nat.le_of_ble_eq_true rfl⟩ rfl rfl (Nat.le_of_ble_eq_true rfl) dL_act_79 ⟨Nat.le_of_ble_eq_true rfl, Nat.le_of_ble_eq_true rfl⟩ (fun H locs hP hD hS => ?_)
          refine lv_if_eq (tgt := 89) hx hb dL_act_82 (by decide) (fun c_6 => ?_) (fun c_6 => ?_)
          · skip
            exact absurd c_6 (by decide)
          · skip
            refine lv_iconst (v := nI 1) hx hb dL_act_85 (by decide) ?_
            refine lv_goto (tgt := 91) hx hb dL_act_86 (by decide) ?_
            exact hret _ _ _ _ hP hS dL_act_91
      · skip
        have nc_3 : ((X / 16) % 8) = 4 := (nI_eq (a := ((X / 16) % 8)) (b := 4) (by omega) (by omega)).mp c_3
        refine lv_iconst (v := nI 0) hx hb dL_act_60 (by decide) ?_
        refine lv_goto (tgt := 79) hx hb dL_act_61 (by decide) ?_
        refine lv_eqi (y := nI wx) (congrArg nI (by rw [hwx]; split <;> (try split) <;> (try split) <;> omega)) ?_
        refine h_st (st := []) C hS hP hD hl.1 (hk) gK_act_passes rfl rfl rfl hd_L_passes ⟨Nat.le_of_ble_eq_true rfl, Nat.le_of_ble_eq_true rfl⟩ rfl rfl (Nat.le_of_ble_eq_true rfl) dL_act_79 ⟨Nat.le_of_ble_eq_true rfl, Nat.le_of_ble_eq_true rfl⟩ (fun H locs hP hD hS => ?_)
        refine lv_if_eq (tgt := 89) hx hb dL_act_82 (by decide) (fun c_7 => ?_) (fun c_7 => ?_)
        · skip
          exact absurd c_7 (by decide)
        · skip
          refine lv_iconst (v := nI 1) hx hb dL_act_85 (by decide) ?_
          refine lv_goto (tgt := 91) hx hb dL_act_86 (by decide) ?_
          exact hret _ _ _ _ hP hS dL_act_91
    · skip
      have nc_2 : ¬ 4 ≤ ((X / 16) % 8) := fun q => c_2 ((nI_leI (a := 4) (b := ((X / 16) % 8)) (by omega) (by omega)).mpr q)
      refine lv_iconst (v := nI 1) hx hb dL_act_40 (by decide) ?_
      refine lv_iload_n hx hb dL_act_41 rfl (lv_at hl 2 rfl) ?_
      refine lv_bipush (v := nI 8) hx hb dL_act_42 (by decide) ?_
      refine lv_idiv hx hb dL_act_44 (by decide) ?_
      refine lv_eqi (pk_div (by omega) (by omega) (by omega)) ?_
      refine lv_bipush (v := nI 9) hx hb dL_act_45 (by decide) ?_
      refine lv_irem hx hb dL_act_47 (by decide) ?_
      refine lv_eqi (pk_rem (by omega) (by omega) (by omega)) ?_
      refine lv_iadd hx hb dL_act_48 ?_
      refine lv_eqi (nI_add _ _) ?_
      refine lv_goto (tgt := 79) hx hb dL_act_49 (by decide) ?_
      refine lv_eqi (y := nI wx) (congrArg nI (by rw [hwx]; split <;> (try split) <;> (try split) <;> omega)) ?_
      refine h_st (st := []) C hS hP hD hl.1 (hk) gK_act_passes rfl rfl rfl hd_L_passes ⟨Nat.le_of_ble_eq_true rfl, Nat.le_of_ble_eq_true rfl⟩ rfl rfl (Nat.le_of_ble_eq_true rfl) dL_act_79 ⟨Nat.le_of_ble_eq_true rfl, Nat.le_of_ble_eq_true rfl⟩ (fun H locs hP hD hS => ?_)
      refine lv_if_eq (tgt := 89) hx hb dL_act_82 (by decide) (fun c_8 => ?_) (fun c_8 => ?_)
      · skip
        exact absurd c_8 (by decide)
      · skip
        refine lv_iconst (v := nI 1) hx hb dL_act_85 (by decide) ?_
        refine lv_goto (tgt := 91) hx hb dL_act_86 (by decide) ?_
        exact hret _ _ _ _ hP hS dL_act_91
set_option maxHeartbeats 4000000 in
set_option maxRecDepth 100000 in
theorem c_L_act_walk (l : Launch) (G : va_G) (ca : Nat → ClassId) (tL tM : Nat) (B : AD) (v : VV) (n : Nat) (hs : Nat → SS) (u : Nat → Option SS) (N : NN) (bd : Nat) (hbd : bd ≤ 100) (hR : Ab B v n hs u) (h : Rn v.1 N) (b : Bd bd N) (X : Nat) (hX : X < 2 ^ 31) (hhow : X % 16 < 10 ∧ 7 ≤ X % 16) : ∃ v1 : VV, Gd (bd + 1) v1.1 ∧ Ab B v1 (recN n) (consS v.1 hs) u ∧ CtS l yL_act wsK_act rmB [.ref B.1.1, .int (nI X)] G ca tL tM (XV ca B v) (XV ca B v1) (nI 1) := by
  have h0 := hR.1
  obtain ⟨v1, hv1, hR1, hk⟩ := k_walk (l := l) (G := G) (ca := ca) (tL := tL) (tM := tM) hR (w := X / 16 / 12 % 6) (f := X / 16 % 12) (t := X / 16 / 72 % 12) (by omega) (by omega) (by omega)
  have h01 := hR1.1
  have hst := stU_b v.1 (X / 16 / 12 % 6) (X / 16 % 12) (X / 16 / 72 % 12)
  refine ⟨v1, by rw [hv1]; exact g_walk h b (by omega) (by omega) (by omega), hR1, ?_⟩
  refine CtS.ofW (cc := cL_act) (maxL := 11) (rt := .int) (by decide) rfl (Nat.le_of_ble_eq_true rfl) rfl ?_
  intro pr en s m be me c A ls Q H hx hb hml hts hown hev hP hD hA hS hl hX hret
  have C : HC pr s m c cL_act ([.ref B.1.1, .int (nI X)] : List Value).toArray wsK_act 11 G ca tL tM A := ⟨hx, hb, hml, hown, hts, hev, hX, hA⟩
  have hown : s.vm.findClass RL = some m.cls := hown
  have hl : lv_has ls 11 [(0, .ref B.1.1), (1, .int (nI X))] := hl
  refine lv_iload_n hx hb dL_act_0 rfl (lv_at hl 1 rfl) ?_
  refine lv_bipush (v := nI 16) hx hb dL_act_1 (by decide) ?_
  refine lv_irem hx hb dL_act_3 (by decide) ?_
  refine lv_eqi (pk_rem (by omega) (by omega) (by omega)) ?_
  refine lv_istore_n (lv' := [(2, .int (nI (X % 16))), (0, .ref B.1.1), (1, .int (nI X))]) hx hb dL_act_4 rfl hl (by decide) rfl (fun ls hl => ?_)
  refine lv_iload_n hx hb dL_act_5 rfl (lv_at hl 2 rfl) ?_
  refine lv_bipush (v := nI 16) hx hb dL_act_6 (by decide) ?_
  refine lv_idiv hx hb dL_act_8 (by decide) ?_
  refine lv_eqi (pk_div (by omega) (by omega) (by omega)) ?_
  refine lv_istore_n (lv' := [(3, .int (nI (X / 16))), (2, .int (nI (X % 16))), (0, .ref B.1.1), (1, .int (nI X))]) hx hb dL_act_9 rfl hl (by decide) rfl (fun ls hl => ?_)
  refine lv_iload_n hx hb dL_act_10 rfl (lv_at hl 0 rfl) ?_
  refine lv_bipush (v := nI 12) hx hb dL_act_11 (by decide) ?_
  refine lv_irem hx hb dL_act_13 (by decide) ?_
  refine lv_eqi (pk_rem (by omega) (by omega) (by omega)) ?_
  refine lv_istore (lv' := [(4, .int (nI ((X / 16) % 12))), (3, .int (nI (X / 16))), (2, .int (nI (X % 16))), (0, .ref B.1.1), (1, .int (nI X))]) hx hb dL_act_14 hl (by decide) rfl (fun ls hl => ?_)
  refine lv_iload_n hx hb dL_act_16 rfl (lv_at hl 1 rfl) ?_
  refine lv_bipush (v := nI 12) hx hb dL_act_17 (by decide) ?_
  refine lv_idiv hx hb dL_act_19 (by decide) ?_
  refine lv_eqi (pk_div (by omega) (by omega) (by omega)) ?_
  refine lv_bipush (v := nI 6) hx hb dL_act_20 (by decide) ?_
  refine lv_irem hx hb dL_act_22 (by decide) ?_
  refine lv_eqi (pk_rem (by omega) (by omega) (by omega)) ?_
  refine lv_istore (lv' := [(5, .int (nI (((X / 16) / 12) % 6))), (4, .int (nI ((X / 16) % 12))), (3, .int (nI (X / 16))), (2, .int (nI (X % 16))), (0, .ref B.1.1), (1, .int (nI X))]) hx hb dL_act_23 hl (by decide) rfl (fun ls hl => ?_)
  refine lv_iload_n hx hb dL_act_25 rfl (lv_at hl 3 rfl) ?_
  refine lv_bipush (v := nI 7) hx hb dL_act_26 (by decide) ?_
  refine lv_icmp_ge (tgt := 92) hx hb dL_act_28 (by decide) (fun c_1 => ?_) (fun c_1 => ?_)
  · skip
    refine lv_iload_n hx hb dL_act_92 rfl (lv_at hl 3 rfl) ?_
    refine lv_bipush (v := nI 10) hx hb dL_act_93 (by decide) ?_
    refine lv_icmp_ge (tgt := 209) hx hb dL_act_95 (by decide) (fun c_2 => ?_) (fun c_2 => ?_)
    · skip
      exact absurd c_2 (nI_ge (a := (X % 16)) (b := 10) (by omega) (by omega))
    · skip
      refine lv_iload_n hx hb dL_act_98 rfl (lv_at hl 2 rfl) ?_
      refine lv_bipush (v := nI 72) hx hb dL_act_99 (by decide) ?_
      refine lv_idiv hx hb dL_act_101 (by decide) ?_
      refine lv_eqi (pk_div (by omega) (by omega) (by omega)) ?_
      refine lv_bipush (v := nI 12) hx hb dL_act_102 (by decide) ?_
      refine lv_irem hx hb dL_act_104 (by decide) ?_
      refine lv_eqi (pk_rem (by omega) (by omega) (by omega)) ?_
      refine lv_istore (lv' := [(6, .int (nI (((X / 16) / 72) % 12))), (5, .int (nI (((X / 16) / 12) % 6))), (4, .int (nI ((X / 16) % 12))), (3, .int (nI (X / 16))), (2, .int (nI (X % 16))), (0, .ref B.1.1), (1, .int (nI X))]) hx hb dL_act_105 hl (by decide) rfl (fun ls hl => ?_)
      refine lv_aload_n hx hb dL_act_107 rfl (lv_at hl 5 rfl) ?_
      refine lv_iload hx hb dL_act_108 (lv_at hl 1 rfl) ?_
      refine lv_iload hx hb dL_act_110 (lv_at hl 2 rfl) ?_
      refine lv_iload hx hb dL_act_112 (lv_at hl 0 rfl) ?_
      refine lv_iconst (v := nI 1) hx hb dL_act_114 (by decide) ?_
      refine h_op (st := []) C hS hP hD hl.1 (k_cost (w := X / 16 / 12 % 6) (f := X / 16 % 12) (t := X / 16 / 72 % 12) (by omega) (by omega) (by omega)) (goodIn_ls [] gL_act_X4_cost act_l) rfl hd_cost ⟨Nat.le_of_ble_eq_true rfl, Nat.le_of_ble_eq_true rfl⟩ rfl rfl (Nat.le_of_ble_eq_true rfl) dL_act_115 ⟨Nat.le_of_ble_eq_true rfl, Nat.le_of_ble_eq_true rfl⟩ (fun H locs hP hD hS => ?_)
      refine lv_istore (lv' := [(7, .int (smD (fun k => dutyA v.1 (plc k (X / 16 % 12) (X / 16 / 72 % 12))) (stU v.1 (X / 16 / 12 % 6) (X / 16 % 12) (X / 16 / 72 % 12)))), (6, .int (nI (((X / 16) / 72) % 12))), (5, .int (nI (((X / 16) / 12) % 6))), (4, .int (nI ((X / 16) % 12))), (3, .int (nI (X / 16))), (2, .int (nI (X % 16))), (0, .ref B.1.1), (1, .int (nI X))]) hx hb dL_act_118 hl (by decide) rfl (fun ls hl => ?_)
      refine lv_aload_n hx hb dL_act_120 rfl (lv_at hl 6 rfl) ?_
      refine lv_iload hx hb dL_act_121 (lv_at hl 2 rfl) ?_
      refine lv_iconst (v := nI 1) hx hb dL_act_123 (by decide) ?_
      refine h_op (st := []) C hS hP hD hl.1 (k_walker (w := X / 16 / 12 % 6) (by omega) (q := 1) (by decide)) (goodIn_ls [] gL_act_X4_walker act_l) rfl hd_walker ⟨Nat.le_of_ble_eq_true rfl, Nat.le_of_ble_eq_true rfl⟩ rfl rfl (Nat.le_of_ble_eq_true rfl) dL_act_124 ⟨Nat.le_of_ble_eq_true rfl, Nat.le_of_ble_eq_true rfl⟩ (fun H locs hP hD hS => ?_)
      refine lv_eqi (y := s_ow v.1 (X / 16 / 12 % 6)) (rfl) ?_
      refine lv_istore (lv' := [(8, .int (s_ow v.1 (X / 16 / 12 % 6))), (7, .int (smD (fun k => dutyA v.1 (plc k (X / 16 % 12) (X / 16 / 72 % 12))) (stU v.1 (X / 16 / 12 % 6) (X / 16 % 12) (X / 16 / 72 % 12)))), (6, .int (nI (((X / 16) / 72) % 12))), (5, .int (nI (((X / 16) / 12) % 6))), (4, .int (nI ((X / 16) % 12))), (3, .int (nI (X / 16))), (2, .int (nI (X % 16))), (0, .ref B.1.1), (1, .int (nI X))]) hx hb dL_act_127 hl (by decide) rfl (fun ls hl => ?_)
      refine lv_aload_n hx hb dL_act_129 rfl (lv_at hl 7 rfl) ?_
      refine lv_iload hx hb dL_act_130 (lv_at hl 3 rfl) ?_
      refine lv_iconst (v := nI 3) hx hb dL_act_132 (by decide) ?_
      refine h_op (st := []) C hS hP hD hl.1 (k_walker (w := X / 16 / 12 % 6) (by omega) (q := 3) (by decide)) (goodIn_ls [] gL_act_X4_walker act_l) rfl hd_walker ⟨Nat.le_of_ble_eq_true rfl, Nat.le_of_ble_eq_true rfl⟩ rfl rfl (Nat.le_of_ble_eq_true rfl) dL_act_133 ⟨Nat.le_of_ble_eq_true rfl, Nat.le_of_ble_eq_true rfl⟩ (fun H locs hP hD hS => ?_)
      refine lv_eqi (y := s_cb v.1 (X / 16 / 12 % 6)) (rfl) ?_
      refine lv_istore (lv' := [(9, .int (s_cb v.1 (X / 16 / 12 % 6))), (8, .int (s_ow v.1 (X / 16 / 12 % 6))), (7, .int (smD (fun k => dutyA v.1 (plc k (X / 16 % 12) (X / 16 / 72 % 12))) (stU v.1 (X / 16 / 12 % 6) (X / 16 % 12) (X / 16 / 72 % 12)))), (6, .int (nI (((X / 16) / 72) % 12))), (5, .int (nI (((X / 16) / 12) % 6))), (4, .int (nI ((X / 16) % 12))), (3, .int (nI (X / 16))), (2, .int (nI (X % 16))), (0, .ref B.1.1), (1, .int (nI X))]) hx hb dL_act_136 hl (by decide) rfl (fun ls hl => ?_)
      refine lv_aload_n hx hb dL_act_138 rfl (lv_at hl 8 rfl) ?_
      refine lv_iload hx hb dL_act_139 (lv_at hl 4 rfl) ?_
      refine lv_iload hx hb dL_act_141 (lv_at hl 5 rfl) ?_
      refine lv_iload hx hb dL_act_143 (lv_at hl 3 rfl) ?_
      refine h_op (st := []) C hS hP hD hl.1 (hk) (goodIn_ls [] gL_act_X4_walk act_l) rfl hd_walk ⟨Nat.le_of_ble_eq_true rfl, Nat.le_of_ble_eq_true rfl⟩ rfl rfl (Nat.le_of_ble_eq_true rfl) dL_act_145 ⟨Nat.le_of_ble_eq_true rfl, Nat.le_of_ble_eq_true rfl⟩ (fun H locs hP hD hS => ?_)
      refine lv_istore (lv' := [(10, .int (nI (stU v.1 (X / 16 / 12 % 6) (X / 16 % 12) (X / 16 / 72 % 12)))), (9, .int (s_cb v.1 (X / 16 / 12 % 6))), (8, .int (s_ow v.1 (X / 16 / 12 % 6))), (7, .int (smD (fun k => dutyA v.1 (plc k (X / 16 % 12) (X / 16 / 72 % 12))) (stU v.1 (X / 16 / 12 % 6) (X / 16 % 12) (X / 16 / 72 % 12)))), (6, .int (nI (((X / 16) / 72) % 12))), (5, .int (nI (((X / 16) / 12) % 6))), (4, .int (nI ((X / 16) % 12))), (3, .int (nI (X / 16))), (2, .int (nI (X % 16))), (0, .ref B.1.1), (1, .int (nI X))]) hx hb dL_act_148 hl (by decide) rfl (fun ls hl => ?_)
      refine lv_iload hx hb dL_act_150 (lv_at hl 0 rfl) ?_
      refine lv_if_lt (tgt := 206) hx hb dL_act_152 (by decide) (fun c_3 => ?_) (fun c_3 => ?_)
      · skip
        exact absurd c_3 (nI_nlt (a := (stU v.1 (X / 16 / 12 % 6) (X / 16 % 12) (X / 16 / 72 % 12))) (b := 0) (by omega) (by omega))
      · skip
        refine lv_iload hx hb dL_act_155 (lv_at hl 0 rfl) ?_
        refine lv_bipush (v := nI 12) hx hb dL_act_157 (by decide) ?_
        refine lv_icmp_gt (tgt := 206) hx hb dL_act_159 (by decide) (fun c_4 => ?_) (fun c_4 => ?_)
        · skip
          exact absurd c_4 (nI_nlt (a := 12) (b := (stU v.1 (X / 16 / 12 % 6) (X / 16 % 12) (X / 16 / 72 % 12))) (by omega) (by omega))
        · skip
          refine lv_aload_n hx hb dL_act_162 rfl (lv_at hl 9 rfl) ?_
          refine lv_iload hx hb dL_act_163 (lv_at hl 5 rfl) ?_
          refine lv_iconst (v := nI 1) hx hb dL_act_165 (by decide) ?_
          refine h_op (st := []) C hS hP hD hl.1 (k_walker (w := X / 16 / 12 % 6) (by omega) (q := 1) (by decide)) (goodIn_ls [] gL_act_X4_walker act_l) rfl hd_walker ⟨Nat.le_of_ble_eq_true rfl, Nat.le_of_ble_eq_true rfl⟩ rfl rfl (Nat.le_of_ble_eq_true rfl) dL_act_166 ⟨Nat.le_of_ble_eq_true rfl, Nat.le_of_ble_eq_true rfl⟩ (fun H locs hP hD hS => ?_)
          refine lv_eqi (y := s_ow v1.1 (X / 16 / 12 % 6)) (rfl) ?_
          refine lv_iload hx hb dL_act_169 (lv_at hl 2 rfl) ?_
          refine lv_iload hx hb dL_act_171 (lv_at hl 3 rfl) ?_
          refine lv_iadd hx hb dL_act_173 ?_
          refine lv_icmp_ne (tgt := 206) hx hb dL_act_174 (by decide) (fun c_5 => ?_) (fun c_5 => ?_)
          · skip
            exact absurd (by rw [hv1, crS_ow, upd_at]) c_5
          · skip
            refine lv_aload_n hx hb dL_act_177 rfl (lv_at hl 9 rfl) ?_
            refine lv_iload hx hb dL_act_178 (lv_at hl 5 rfl) ?_
            refine lv_iconst (v := nI 3) hx hb dL_act_180 (by decide) ?_
            refine h_op (st := []) C hS hP hD hl.1 (k_walker (w := X / 16 / 12 % 6) (by omega) (q := 3) (by decide)) (goodIn_ls [] gL_act_X4_walker act_l) rfl hd_walker ⟨Nat.le_of_ble_eq_true rfl, Nat.le_of_ble_eq_true rfl⟩ rfl rfl (Nat.le_of_ble_eq_true rfl) dL_act_181 ⟨Nat.le_of_ble_eq_true rfl, Nat.le_of_ble_eq_true rfl⟩ (fun H locs hP hD hS => ?_)
            refine lv_eqi (y := s_cb v1.1 (X / 16 / 12 % 6)) (rfl) ?_
            refine lv_iload hx hb dL_act_184 (lv_at hl 1 rfl) ?_
            refine lv_iload hx hb dL_act_186 (lv_at hl 0 rfl) ?_
            refine lv_iadd hx hb dL_act_188 ?_
            refine lv_icmp_ne (tgt := 206) hx hb dL_act_189 (by decide) (fun c_6 => ?_) (fun c_6 => ?_)
            · skip
              exact absurd (by rw [hv1, crS_cb, upd_at]) c_6
            · skip
              refine lv_iload hx hb dL_act_192 (lv_at hl 0 rfl) ?_
              refine lv_if_gt (tgt := 202) hx hb dL_act_194 (by decide) (fun c_7 => ?_) (fun c_7 => ?_)
              · skip
                have nc_7 : 0 < (stU v.1 (X / 16 / 12 % 6) (X / 16 % 12) (X / 16 / 72 % 12)) := (nI_ltI (a := 0) (b := (stU v.1 (X / 16 / 12 % 6) (X / 16 % 12) (X / 16 / 72 % 12))) (by omega) (by omega)).mp c_7
                refine lv_iconst (v := nI 1) hx hb dL_act_202 (by decide) ?_
                refine lv_goto (tgt := 208) hx hb dL_act_203 (by decide) ?_
                exact hret _ _ _ _ hP hS dL_act_208
              · skip
                have nc_7 : ¬ 0 < (stU v.1 (X / 16 / 12 % 6) (X / 16 % 12) (X / 16 / 72 % 12)) := fun q => c_7 ((nI_ltI (a := 0) (b := (stU v.1 (X / 16 / 12 % 6) (X / 16 % 12) (X / 16 / 72 % 12))) (by omega) (by omega)).mpr q)
                refine lv_iload hx hb dL_act_197 (lv_at hl 3 rfl) ?_
                refine lv_if_ne (tgt := 206) hx hb dL_act_199 (by decide) (fun c_8 => ?_) (fun c_8 => ?_)
                · skip
                  exact absurd (by rw [show stU v.1 (X / 16 / 12 % 6) (X / 16 % 12) (X / 16 / 72 % 12) = 0 by omega]; rfl) c_8
                · skip
                  refine lv_iconst (v := nI 1) hx hb dL_act_202 (by decide) ?_
                  refine lv_goto (tgt := 208) hx hb dL_act_203 (by decide) ?_
                  exact hret _ _ _ _ hP hS dL_act_208
  · skip
    exact absurd (nI_le (a := 7) (b := (X % 16)) (by omega) (by omega)) c_1
set_option maxHeartbeats 4000000 in
set_option maxRecDepth 100000 in
theorem c_L_act_brim (l : Launch) (G : va_G) (ca : Nat → ClassId) (tL tM : Nat) (B : AD) (v : VV) (n : Nat) (hs : Nat → SS) (u : Nat → Option SS) (N : NN) (bd : Nat) (hbd : bd ≤ 100) (hR : Ab B v n hs u) (h : Rn v.1 N) (b : Bd bd N) (X : Nat) (hX : X < 2 ^ 31) (hhow : X % 16 = 10) : ∃ v1 : VV, Gd (bd + 1) v1.1 ∧ Ab B v1 (recN n) (consS v.1 hs) u ∧ CtS l yL_act wsK_act rmB [.ref B.1.1, .int (nI X)] G ca tL tM (XV ca B v) (XV ca B v1) (nI 1) := by
  have h0 := hR.1
  obtain ⟨v1, hv1, hR1, hk⟩ := k_brim (l := l) (G := G) (ca := ca) (tL := tL) (tM := tM) hR (p := X / 16 % 12) (by omega) (z := nI (1 + X / 16 / 72 % 60)) (nI_nlt (b := 1) (by omega) (by omega)) (nI_le (b := 60) (by omega) (by omega))
  have h01 := hR1.1
  have hwb := b.wb (X / 16 % 12) (by omega)
  obtain ⟨t, ht1, ht2⟩ : ∃ t, s_wa v1.1 (X / 16 % 12) = nI t ∧ (((1 + X / 16 / 72 % 60) < n_wa N (X / 16 % 12) ∧ t = (1 + X / 16 / 72 % 60)) ∨ (n_wa N (X / 16 % 12) ≤ (1 + X / 16 / 72 % 60) ∧ t = n_wa N (X / 16 % 12))) := by
    refine ⟨_, by rw [hv1]; exact dn_wa h b (p := X / 16 % 12) (q := 1 + X / 16 / 72 % 60) (by omega) (by omega) (X / 16 % 12) (by omega), ?_⟩
    rw [updN_at]
    by_cases c : (1 + X / 16 / 72 % 60) < n_wa N (X / 16 % 12)
    · rw [if_pos c]; exact Or.inl ⟨c, rfl⟩
    · rw [if_neg c]; exact Or.inr ⟨by omega, rfl⟩
  refine ⟨v1, by rw [hv1]; exact g_brim h b (p := X / 16 % 12) (q := 1 + X / 16 / 72 % 60) (by omega) (by omega) (by omega), hR1, ?_⟩
  refine CtS.ofW (cc := cL_act) (maxL := 11) (rt := .int) (by decide) rfl (Nat.le_of_ble_eq_true rfl) rfl ?_
  intro pr en s m be me c A ls Q H hx hb hml hts hown hev hP hD hA hS hl hX hret
  have C : HC pr s m c cL_act ([.ref B.1.1, .int (nI X)] : List Value).toArray wsK_act 11 G ca tL tM A := ⟨hx, hb, hml, hown, hts, hev, hX, hA⟩
  have hown : s.vm.findClass RL = some m.cls := hown
  have hl : lv_has ls 11 [(0, .ref B.1.1), (1, .int (nI X))] := hl
  refine lv_iload_n hx hb dL_act_0 rfl (lv_at hl 1 rfl) ?_
  refine lv_bipush (v := nI 16) hx hb dL_act_1 (by decide) ?_
  refine lv_irem hx hb dL_act_3 (by decide) ?_
  refine lv_eqi (pk_rem (by omega) (by omega) (by omega)) ?_
  refine lv_istore_n (lv' := [(2, .int (nI (X % 16))), (0, .ref B.1.1), (1, .int (nI X))]) hx hb dL_act_4 rfl hl (by decide) rfl (fun ls hl => ?_)
  refine lv_iload_n hx hb dL_act_5 rfl (lv_at hl 2 rfl) ?_
  refine lv_bipush (v := nI 16) hx hb dL_act_6 (by decide) ?_
  refine lv_idiv hx hb dL_act_8 (by decide) ?_
  refine lv_eqi (pk_div (by omega) (by omega) (by omega)) ?_
  refine lv_istore_n (lv' := [(3, .int (nI (X / 16))), (2, .int (nI (X % 16))), (0, .ref B.1.1), (1, .int (nI X))]) hx hb dL_act_9 rfl hl (by decide) rfl (fun ls hl => ?_)
  refine lv_iload_n hx hb dL_act_10 rfl (lv_at hl 0 rfl) ?_
  refine lv_bipush (v := nI 12) hx hb dL_act_11 (by decide) ?_
  refine lv_irem hx hb dL_act_13 (by decide) ?_
  refine lv_eqi (pk_rem (by omega) (by omega) (by omega)) ?_
  refine lv_istore (lv' := [(4, .int (nI ((X / 16) % 12))), (3, .int (nI (X / 16))), (2, .int (nI (X % 16))), (0, .ref B.1.1), (1, .int (nI X))]) hx hb dL_act_14 hl (by decide) rfl (fun ls hl => ?_)
  refine lv_iload_n hx hb dL_act_16 rfl (lv_at hl 1 rfl) ?_
  refine lv_bipush (v := nI 12) hx hb dL_act_17 (by decide) ?_
  refine lv_idiv hx hb dL_act_19 (by decide) ?_
  refine lv_eqi (pk_div (by omega) (by omega) (by omega)) ?_
  refine lv_bipush (v := nI 6) hx hb dL_act_20 (by decide) ?_
  refine lv_irem hx hb dL_act_22 (by decide) ?_
  refine lv_eqi (pk_rem (by omega) (by omega) (by omega)) ?_
  refine lv_istore (lv' := [(5, .int (nI (((X / 16) / 12) % 6))), (4, .int (nI ((X / 16) % 12))), (3, .int (nI (X / 16))), (2, .int (nI (X % 16))), (0, .ref B.1.1), (1, .int (nI X))]) hx hb dL_act_23 hl (by decide) rfl (fun ls hl => ?_)
  refine lv_iload_n hx hb dL_act_25 rfl (lv_at hl 3 rfl) ?_
  refine lv_bipush (v := nI 7) hx hb dL_act_26 (by decide) ?_
  refine lv_icmp_ge (tgt := 92) hx hb dL_act_28 (by decide) (fun c_1 => ?_) (fun c_1 => ?_)
  · skip
    refine lv_iload_n hx hb dL_act_92 rfl (lv_at hl 3 rfl) ?_
    refine lv_bipush (v := nI 10) hx hb dL_act_93 (by decide) ?_
    refine lv_icmp_ge (tgt := 209) hx hb dL_act_95 (by decide) (fun c_2 => ?_) (fun c_2 => ?_)
    · skip
      by_cases hd : bt1 (s_dk v.1) (X / 16 % 12) = 0
      · skip
        refine lv_aload_n hx hb dL_act_209 rfl (lv_at hl 4 rfl) ?_
        refine lv_bipush (v := nI 10) hx hb dL_act_210 (by decide) ?_
        refine h_op (st := []) C hS hP hD hl.1 (k_count h0 (q := 10) (by decide)) (goodIn_ls [] gL_act_X4_count act_l) rfl hd_count ⟨Nat.le_of_ble_eq_true rfl, Nat.le_of_ble_eq_true rfl⟩ rfl rfl (Nat.le_of_ble_eq_true rfl) dL_act_212 ⟨Nat.le_of_ble_eq_true rfl, Nat.le_of_ble_eq_true rfl⟩ (fun H locs hP hD hS => ?_)
        refine lv_eqi (y := s_dk v.1) (rfl) ?_
        refine lv_iload hx hb dL_act_215 (lv_at hl 1 rfl) ?_
        refine lv_ishr hx hb dL_act_217 ?_
        refine lv_iconst (v := nI 1) hx hb dL_act_218 (by decide) ?_
        refine lv_iand hx hb dL_act_219 ?_
        refine lv_iconst (v := nI 1) hx hb dL_act_220 (by decide) ?_
        refine lv_icmp_ne (tgt := 228) hx hb dL_act_221 (by decide) (fun c_3 => ?_) (fun c_3 => ?_)
        · skip
          refine lv_iconst (v := nI 0) hx hb dL_act_228 (by decide) ?_
          refine lv_istore (lv' := [(6, .int (nI 0)), (5, .int (nI (((X / 16) / 12) % 6))), (4, .int (nI ((X / 16) % 12))), (3, .int (nI (X / 16))), (2, .int (nI (X % 16))), (0, .ref B.1.1), (1, .int (nI X))]) hx hb dL_act_229 hl (by decide) rfl (fun ls hl => ?_)
          refine lv_iload_n hx hb dL_act_231 rfl (lv_at hl 4 rfl) ?_
          refine lv_bipush (v := nI 10) hx hb dL_act_232 (by decide) ?_
          refine lv_icmp_ne (tgt := 322) hx hb dL_act_234 (by decide) (fun c_4 => ?_) (fun c_4 => ?_)
          · skip
            exact absurd ((nI_eq (a := (X % 16)) (b := 10) (by omega) (by omega)).mpr (by omega)) c_4
          · skip
            refine lv_iconst (v := nI 1) hx hb dL_act_237 (by decide) ?_
            refine lv_iload_n hx hb dL_act_238 rfl (lv_at hl 3 rfl) ?_
            refine lv_bipush (v := nI 72) hx hb dL_act_239 (by decide) ?_
            refine lv_idiv hx hb dL_act_241 (by decide) ?_
            refine lv_eqi (pk_div (by omega) (by omega) (by omega)) ?_
            refine lv_bipush (v := nI 60) hx hb dL_act_242 (by decide) ?_
            refine lv_irem hx hb dL_act_244 (by decide) ?_
            refine lv_eqi (pk_rem (by omega) (by omega) (by omega)) ?_
            refine lv_iadd hx hb dL_act_245 ?_
            refine lv_eqi (nI_add _ _) ?_
            refine lv_istore (lv' := [(7, .int (nI (1 + (((X / 16) / 72) % 60)))), (6, .int (nI 0)), (5, .int (nI (((X / 16) / 12) % 6))), (4, .int (nI ((X / 16) % 12))), (3, .int (nI (X / 16))), (2, .int (nI (X % 16))), (0, .ref B.1.1), (1, .int (nI X))]) hx hb dL_act_246 hl (by decide) rfl (fun ls hl => ?_)
            refine lv_aload_n hx hb dL_act_248 rfl (lv_at hl 6 rfl) ?_
            refine lv_iload hx hb dL_act_249 (lv_at hl 3 rfl) ?_
            refine lv_iconst (v := nI 0) hx hb dL_act_251 (by decide) ?_
            refine h_op (st := []) C hS hP hD hl.1 (k_puddle (p := X / 16 % 12) (by omega) (q := 0) (by decide)) (goodIn_ls [] gL_act_X4_puddle act_l) rfl hd_puddle ⟨Nat.le_of_ble_eq_true rfl, Nat.le_of_ble_eq_true rfl⟩ rfl rfl (Nat.le_of_ble_eq_true rfl) dL_act_252 ⟨Nat.le_of_ble_eq_true rfl, Nat.le_of_ble_eq_true rfl⟩ (fun H locs hP hD hS => ?_)
            refine lv_eqi (y := s_br v.1 (X / 16 % 12)) (rfl) ?_
            refine lv_istore (lv' := [(8, .int (s_br v.1 (X / 16 % 12))), (7, .int (nI (1 + (((X / 16) / 72) % 60)))), (6, .int (nI 0)), (5, .int (nI (((X / 16) / 12) % 6))), (4, .int (nI ((X / 16) % 12))), (3, .int (nI (X / 16))), (2, .int (nI (X % 16))), (0, .ref B.1.1), (1, .int (nI X))]) hx hb dL_act_255 hl (by decide) rfl (fun ls hl => ?_)
            refine lv_aload_n hx hb dL_act_257 rfl (lv_at hl 7 rfl) ?_
            refine lv_iload hx hb dL_act_258 (lv_at hl 4 rfl) ?_
            refine lv_iconst (v := nI 1) hx hb dL_act_260 (by decide) ?_
            refine h_op (st := []) C hS hP hD hl.1 (k_puddle (p := X / 16 % 12) (by omega) (q := 1) (by decide)) (goodIn_ls [] gL_act_X4_puddle act_l) rfl hd_puddle ⟨Nat.le_of_ble_eq_true rfl, Nat.le_of_ble_eq_true rfl⟩ rfl rfl (Nat.le_of_ble_eq_true rfl) dL_act_261 ⟨Nat.le_of_ble_eq_true rfl, Nat.le_of_ble_eq_true rfl⟩ (fun H locs hP hD hS => ?_)
            refine lv_eqi (y := nI (n_wa N (X / 16 % 12))) (e_p1 h (p := X / 16 % 12) (by omega)) ?_
            refine lv_istore (lv' := [(9, .int (nI (n_wa N (X / 16 % 12)))), (8, .int (s_br v.1 (X / 16 % 12))), (7, .int (nI (1 + (((X / 16) / 72) % 60)))), (6, .int (nI 0)), (5, .int (nI (((X / 16) / 12) % 6))), (4, .int (nI ((X / 16) % 12))), (3, .int (nI (X / 16))), (2, .int (nI (X % 16))), (0, .ref B.1.1), (1, .int (nI X))]) hx hb dL_act_264 hl (by decide) rfl (fun ls hl => ?_)
            refine lv_aload_n hx hb dL_act_266 rfl (lv_at hl 8 rfl) ?_
            refine lv_iload hx hb dL_act_267 (lv_at hl 5 rfl) ?_
            refine lv_iload hx hb dL_act_269 (lv_at hl 2 rfl) ?_
            refine h_op (st := []) C hS hP hD hl.1 (hk) (goodIn_ls [] gL_act_X4_brim act_l) rfl hd_brim ⟨Nat.le_of_ble_eq_true rfl, Nat.le_of_ble_eq_true rfl⟩ rfl rfl (Nat.le_of_ble_eq_true rfl) dL_act_271 ⟨Nat.le_of_ble_eq_true rfl, Nat.le_of_ble_eq_true rfl⟩ (fun H locs hP hD hS => ?_)
            refine lv_iload hx hb dL_act_274 (lv_at hl 1 rfl) ?_
            refine lv_icmp_ne (tgt := 319) hx hb dL_act_276 (by decide) (fun c_5 => ?_) (fun c_5 => ?_)
            · skip
              exact absurd rfl c_5
            · skip
              refine lv_aload_n hx hb dL_act_279 rfl (lv_at hl 8 rfl) ?_
              refine lv_iload hx hb dL_act_280 (lv_at hl 5 rfl) ?_
              refine lv_iconst (v := nI 0) hx hb dL_act_282 (by decide) ?_
              refine h_op (st := []) C hS hP hD hl.1 (k_puddle (p := X / 16 % 12) (by omega) (q := 0) (by decide)) (goodIn_ls [] gL_act_X4_puddle act_l) rfl hd_puddle ⟨Nat.le_of_ble_eq_true rfl, Nat.le_of_ble_eq_true rfl⟩ rfl rfl (Nat.le_of_ble_eq_true rfl) dL_act_283 ⟨Nat.le_of_ble_eq_true rfl, Nat.le_of_ble_eq_true rfl⟩ (fun H locs hP hD hS => ?_)
              refine lv_eqi (y := nI (1 + X / 16 / 72 % 60)) ((show s_br v1.1 (X / 16 % 12) = _ by rw [hv1]; exact upd_at _ _ _)) ?_
              refine lv_iload hx hb dL_act_286 (lv_at hl 2 rfl) ?_
              refine lv_icmp_ne (tgt := 319) hx hb dL_act_288 (by decide) (fun c_6 => ?_) (fun c_6 => ?_)
              · skip
                exact absurd ((nI_eq (a := (1 + X / 16 / 72 % 60)) (b := (1 + (((X / 16) / 72) % 60))) (by omega) (by omega)).mpr (by omega)) c_6
              · skip
                refine lv_aload_n hx hb dL_act_291 rfl (lv_at hl 8 rfl) ?_
                refine lv_iload hx hb dL_act_292 (lv_at hl 5 rfl) ?_
                refine lv_iconst (v := nI 1) hx hb dL_act_294 (by decide) ?_
                refine h_op (st := []) C hS hP hD hl.1 (k_puddle (p := X / 16 % 12) (by omega) (q := 1) (by decide)) (goodIn_ls [] gL_act_X4_puddle act_l) rfl hd_puddle ⟨Nat.le_of_ble_eq_true rfl, Nat.le_of_ble_eq_true rfl⟩ rfl rfl (Nat.le_of_ble_eq_true rfl) dL_act_295 ⟨Nat.le_of_ble_eq_true rfl, Nat.le_of_ble_eq_true rfl⟩ (fun H locs hP hD hS => ?_)
                refine lv_eqi (y := nI t) (ht1) ?_
                refine lv_iload hx hb dL_act_298 (lv_at hl 0 rfl) ?_
                refine lv_iload hx hb dL_act_300 (lv_at hl 2 rfl) ?_
                refine lv_icmp_ge (tgt := 310) hx hb dL_act_302 (by decide) (fun c_7 => ?_) (fun c_7 => ?_)
                · skip
                  have nc_7 : (1 + (((X / 16) / 72) % 60)) ≤ (n_wa N (X / 16 % 12)) := (nI_leI (a := (1 + (((X / 16) / 72) % 60))) (b := (n_wa N (X / 16 % 12))) (by omega) (by omega)).mp c_7
                  refine lv_iload hx hb dL_act_310 (lv_at hl 2 rfl) ?_
                  refine lv_icmp_ne (tgt := 319) hx hb dL_act_312 (by decide) (fun c_8 => ?_) (fun c_8 => ?_)
                  · skip
                    exact absurd ((nI_eq (a := t) (b := (1 + (((X / 16) / 72) % 60))) (by omega) (by omega)).mpr (by omega)) c_8
                  · skip
                    refine lv_iconst (v := nI 1) hx hb dL_act_315 (by decide) ?_
                    refine lv_goto (tgt := 321) hx hb dL_act_316 (by decide) ?_
                    exact hret _ _ _ _ hP hS dL_act_321
                · skip
                  have nc_7 : ¬ (1 + (((X / 16) / 72) % 60)) ≤ (n_wa N (X / 16 % 12)) := fun q => c_7 ((nI_leI (a := (1 + (((X / 16) / 72) % 60))) (b := (n_wa N (X / 16 % 12))) (by omega) (by omega)).mpr q)
                  refine lv_iload hx hb dL_act_305 (lv_at hl 0 rfl) ?_
                  refine lv_goto (tgt := 312) hx hb dL_act_307 (by decide) ?_
                  refine lv_icmp_ne (tgt := 319) hx hb dL_act_312 (by decide) (fun c_9 => ?_) (fun c_9 => ?_)
                  · skip
                    exact absurd ((nI_eq (a := t) (b := (n_wa N (X / 16 % 12))) (by omega) (by omega)).mpr (by omega)) c_9
                  · skip
                    refine lv_iconst (v := nI 1) hx hb dL_act_315 (by decide) ?_
                    refine lv_goto (tgt := 321) hx hb dL_act_316 (by decide) ?_
                    exact hret _ _ _ _ hP hS dL_act_321
        · skip
          exact absurd c_3 (dk_0 hd)
      · skip
        refine lv_aload_n hx hb dL_act_209 rfl (lv_at hl 4 rfl) ?_
        refine lv_bipush (v := nI 10) hx hb dL_act_210 (by decide) ?_
        refine h_op (st := []) C hS hP hD hl.1 (k_count h0 (q := 10) (by decide)) (goodIn_ls [] gL_act_X4_count act_l) rfl hd_count ⟨Nat.le_of_ble_eq_true rfl, Nat.le_of_ble_eq_true rfl⟩ rfl rfl (Nat.le_of_ble_eq_true rfl) dL_act_212 ⟨Nat.le_of_ble_eq_true rfl, Nat.le_of_ble_eq_true rfl⟩ (fun H locs hP hD hS => ?_)
        refine lv_eqi (y := s_dk v.1) (rfl) ?_
        refine lv_iload hx hb dL_act_215 (lv_at hl 1 rfl) ?_
        refine lv_ishr hx hb dL_act_217 ?_
        refine lv_iconst (v := nI 1) hx hb dL_act_218 (by decide) ?_
        refine lv_iand hx hb dL_act_219 ?_
        refine lv_iconst (v := nI 1) hx hb dL_act_220 (by decide) ?_
        refine lv_icmp_ne (tgt := 228) hx hb dL_act_221 (by decide) (fun c_10 => ?_) (fun c_10 => ?_)
        · skip
          exact absurd (dk_1 hd) c_10
        · skip
          refine lv_iconst (v := nI 1) hx hb dL_act_224 (by decide) ?_
          refine lv_goto (tgt := 229) hx hb dL_act_225 (by decide) ?_
          refine lv_istore (lv' := [(6, .int (nI 1)), (5, .int (nI (((X / 16) / 12) % 6))), (4, .int (nI ((X / 16) % 12))), (3, .int (nI (X / 16))), (2, .int (nI (X % 16))), (0, .ref B.1.1), (1, .int (nI X))]) hx hb dL_act_229 hl (by decide) rfl (fun ls hl => ?_)
          refine lv_iload_n hx hb dL_act_231 rfl (lv_at hl 4 rfl) ?_
          refine lv_bipush (v := nI 10) hx hb dL_act_232 (by decide) ?_
          refine lv_icmp_ne (tgt := 322) hx hb dL_act_234 (by decide) (fun c_11 => ?_) (fun c_11 => ?_)
          · skip
            exact absurd ((nI_eq (a := (X % 16)) (b := 10) (by omega) (by omega)).mpr (by omega)) c_11
          · skip
            refine lv_iconst (v := nI 1) hx hb dL_act_237 (by decide) ?_
            refine lv_iload_n hx hb dL_act_238 rfl (lv_at hl 3 rfl) ?_
            refine lv_bipush (v := nI 72) hx hb dL_act_239 (by decide) ?_
            refine lv_idiv hx hb dL_act_241 (by decide) ?_
            refine lv_eqi (pk_div (by omega) (by omega) (by omega)) ?_
            refine lv_bipush (v := nI 60) hx hb dL_act_242 (by decide) ?_
            refine lv_irem hx hb dL_act_244 (by decide) ?_
            refine lv_eqi (pk_rem (by omega) (by omega) (by omega)) ?_
            refine lv_iadd hx hb dL_act_245 ?_
            refine lv_eqi (nI_add _ _) ?_
            refine lv_istore (lv' := [(7, .int (nI (1 + (((X / 16) / 72) % 60)))), (6, .int (nI 1)), (5, .int (nI (((X / 16) / 12) % 6))), (4, .int (nI ((X / 16) % 12))), (3, .int (nI (X / 16))), (2, .int (nI (X % 16))), (0, .ref B.1.1), (1, .int (nI X))]) hx hb dL_act_246 hl (by decide) rfl (fun ls hl => ?_)
            refine lv_aload_n hx hb dL_act_248 rfl (lv_at hl 6 rfl) ?_
            refine lv_iload hx hb dL_act_249 (lv_at hl 3 rfl) ?_
            refine lv_iconst (v := nI 0) hx hb dL_act_251 (by decide) ?_
            refine h_op (st := []) C hS hP hD hl.1 (k_puddle (p := X / 16 % 12) (by omega) (q := 0) (by decide)) (goodIn_ls [] gL_act_X4_puddle act_l) rfl hd_puddle ⟨Nat.le_of_ble_eq_true rfl, Nat.le_of_ble_eq_true rfl⟩ rfl rfl (Nat.le_of_ble_eq_true rfl) dL_act_252 ⟨Nat.le_of_ble_eq_true rfl, Nat.le_of_ble_eq_true rfl⟩ (fun H locs hP hD hS => ?_)
            refine lv_eqi (y := s_br v.1 (X / 16 % 12)) (rfl) ?_
            refine lv_istore (lv' := [(8, .int (s_br v.1 (X / 16 % 12))), (7, .int (nI (1 + (((X / 16) / 72) % 60)))), (6, .int (nI 1)), (5, .int (nI (((X / 16) / 12) % 6))), (4, .int (nI ((X / 16) % 12))), (3, .int (nI (X / 16))), (2, .int (nI (X % 16))), (0, .ref B.1.1), (1, .int (nI X))]) hx hb dL_act_255 hl (by decide) rfl (fun ls hl => ?_)
            refine lv_aload_n hx hb dL_act_257 rfl (lv_at hl 7 rfl) ?_
            refine lv_iload hx hb dL_act_258 (lv_at hl 4 rfl) ?_
            refine lv_iconst (v := nI 1) hx hb dL_act_260 (by decide) ?_
            refine h_op (st := []) C hS hP hD hl.1 (k_puddle (p := X / 16 % 12) (by omega) (q := 1) (by decide)) (goodIn_ls [] gL_act_X4_puddle act_l) rfl hd_puddle ⟨Nat.le_of_ble_eq_true rfl, Nat.le_of_ble_eq_true rfl⟩ rfl rfl (Nat.le_of_ble_eq_true rfl) dL_act_261 ⟨Nat.le_of_ble_eq_true rfl, Nat.le_of_ble_eq_true rfl⟩ (fun H locs hP hD hS => ?_)
            refine lv_eqi (y := nI (n_wa N (X / 16 % 12))) (e_p1 h (p := X / 16 % 12) (by omega)) ?_
            refine lv_istore (lv' := [(9, .int (nI (n_wa N (X / 16 % 12)))), (8, .int (s_br v.1 (X / 16 % 12))), (7, .int (nI (1 + (((X / 16) / 72) % 60)))), (6, .int (nI 1)), (5, .int (nI (((X / 16) / 12) % 6))), (4, .int (nI ((X / 16) % 12))), (3, .int (nI (X / 16))), (2, .int (nI (X % 16))), (0, .ref B.1.1), (1, .int (nI X))]) hx hb dL_act_264 hl (by decide) rfl (fun ls hl => ?_)
            refine lv_aload_n hx hb dL_act_266 rfl (lv_at hl 8 rfl) ?_
            refine lv_iload hx hb dL_act_267 (lv_at hl 5 rfl) ?_
            refine lv_iload hx hb dL_act_269 (lv_at hl 2 rfl) ?_
            refine h_op (st := []) C hS hP hD hl.1 (hk) (goodIn_ls [] gL_act_X4_brim act_l) rfl hd_brim ⟨Nat.le_of_ble_eq_true rfl, Nat.le_of_ble_eq_true rfl⟩ rfl rfl (Nat.le_of_ble_eq_true rfl) dL_act_271 ⟨Nat.le_of_ble_eq_true rfl, Nat.le_of_ble_eq_true rfl⟩ (fun H locs hP hD hS => ?_)
            refine lv_iload hx hb dL_act_274 (lv_at hl 1 rfl) ?_
            refine lv_icmp_ne (tgt := 319) hx hb dL_act_276 (by decide) (fun c_12 => ?_) (fun c_12 => ?_)
            · skip
              exact absurd rfl c_12
            · skip
              refine lv_aload_n hx hb dL_act_279 rfl (lv_at hl 8 rfl) ?_
              refine lv_iload hx hb dL_act_280 (lv_at hl 5 rfl) ?_
              refine lv_iconst (v := nI 0) hx hb dL_act_282 (by decide) ?_
              refine h_op (st := []) C hS hP hD hl.1 (k_puddle (p := X / 16 % 12) (by omega) (q := 0) (by decide)) (goodIn_ls [] gL_act_X4_puddle act_l) rfl hd_puddle ⟨Nat.le_of_ble_eq_true rfl, Nat.le_of_ble_eq_true rfl⟩ rfl rfl (Nat.le_of_ble_eq_true rfl) dL_act_283 ⟨Nat.le_of_ble_eq_true rfl, Nat.le_of_ble_eq_true rfl⟩ (fun H locs hP hD hS => ?_)
              refine lv_eqi (y := nI (1 + X / 16 / 72 % 60)) ((show s_br v1.1 (X / 16 % 12) = _ by rw [hv1]; exact upd_at _ _ _)) ?_
              refine lv_iload hx hb dL_act_286 (lv_at hl 2 rfl) ?_
              refine lv_icmp_ne (tgt := 319) hx hb dL_act_288 (by decide) (fun c_13 => ?_) (fun c_13 => ?_)
              · skip
                exact absurd ((nI_eq (a := (1 + X / 16 / 72 % 60)) (b := (1 + (((X / 16) / 72) % 60))) (by omega) (by omega)).mpr (by omega)) c_13
              · skip
                refine lv_aload_n hx hb dL_act_291 rfl (lv_at hl 8 rfl) ?_
                refine lv_iload hx hb dL_act_292 (lv_at hl 5 rfl) ?_
                refine lv_iconst (v := nI 1) hx hb dL_act_294 (by decide) ?_
                refine h_op (st := []) C hS hP hD hl.1 (k_puddle (p := X / 16 % 12) (by omega) (q := 1) (by decide)) (goodIn_ls [] gL_act_X4_puddle act_l) rfl hd_puddle ⟨Nat.le_of_ble_eq_true rfl, Nat.le_of_ble_eq_true rfl⟩ rfl rfl (Nat.le_of_ble_eq_true rfl) dL_act_295 ⟨Nat.le_of_ble_eq_true rfl, Nat.le_of_ble_eq_true rfl⟩ (fun H locs hP hD hS => ?_)
                refine lv_eqi (y := nI t) (ht1) ?_
                refine lv_iload hx hb dL_act_298 (lv_at hl 0 rfl) ?_
                refine lv_iload hx hb dL_act_300 (lv_at hl 2 rfl) ?_
                refine lv_icmp_ge (tgt := 310) hx hb dL_act_302 (by decide) (fun c_14 => ?_) (fun c_14 => ?_)
                · skip
                  have nc_14 : (1 + (((X / 16) / 72) % 60)) ≤ (n_wa N (X / 16 % 12)) := (nI_leI (a := (1 + (((X / 16) / 72) % 60))) (b := (n_wa N (X / 16 % 12))) (by omega) (by omega)).mp c_14
                  refine lv_iload hx hb dL_act_310 (lv_at hl 2 rfl) ?_
                  refine lv_icmp_ne (tgt := 319) hx hb dL_act_312 (by decide) (fun c_15 => ?_) (fun c_15 => ?_)
                  · skip
                    exact absurd ((nI_eq (a := t) (b := (1 + (((X / 16) / 72) % 60))) (by omega) (by omega)).mpr (by omega)) c_15
                  · skip
                    refine lv_iconst (v := nI 1) hx hb dL_act_315 (by decide) ?_
                    refine lv_goto (tgt := 321) hx hb dL_act_316 (by decide) ?_
                    exact hret _ _ _ _ hP hS dL_act_321
                · skip
                  have nc_14 : ¬ (1 + (((X / 16) / 72) % 60)) ≤ (n_wa N (X / 16 % 12)) := fun q => c_14 ((nI_leI (a := (1 + (((X / 16) / 72) % 60))) (b := (n_wa N (X / 16 % 12))) (by omega) (by omega)).mpr q)
                  refine lv_iload hx hb dL_act_305 (lv_at hl 0 rfl) ?_
                  refine lv_goto (tgt := 312) hx hb dL_act_307 (by decide) ?_
                  refine lv_icmp_ne (tgt := 319) hx hb dL_act_312 (by decide) (fun c_16 => ?_) (fun c_16 => ?_)
                  · skip
                    exact absurd ((nI_eq (a := t) (b := (n_wa N (X / 16 % 12))) (by omega) (by omega)).mpr (by omega)) c_16
                  · skip
                    refine lv_iconst (v := nI 1) hx hb dL_act_315 (by decide) ?_
                    refine lv_goto (tgt := 321) hx hb dL_act_316 (by decide) ?_
                    exact hret _ _ _ _ hP hS dL_act_321
    · skip
      exact absurd (nI_le (a := 10) (b := (X % 16)) (by omega) (by omega)) c_2
  · skip
    exact absurd (nI_le (a := 7) (b := (X % 16)) (by omega) (by omega)) c_1
set_option maxHeartbeats 4000000 in
set_option maxRecDepth 100000 in
theorem c_L_act_drain0 (l : Launch) (G : va_G) (ca : Nat → ClassId) (tL tM : Nat) (B : AD) (v : VV) (n : Nat) (hs : Nat → SS) (u : Nat → Option SS) (N : NN) (bd : Nat) (hbd : bd ≤ 100) (hR : Ab B v n hs u) (h : Rn v.1 N) (b : Bd bd N) (X : Nat) (hX : X < 2 ^ 31) (hhow : X % 16 = 11) (hd : ¬ bt1 (s_dk v.1) (X / 16 % 12) = 0) : CtS l yL_act wsK_act rmB [.ref B.1.1, .int (nI X)] G ca tL tM (XV ca B v) (XV ca B v) (nI 0) := by
  have h0 := hR.1
  refine CtS.ofW (cc := cL_act) (maxL := 11) (rt := .int) (by decide) rfl (Nat.le_of_ble_eq_true rfl) rfl ?_
  intro pr en s m be me c A ls Q H hx hb hml hts hown hev hP hD hA hS hl hX hret
  have C : HC pr s m c cL_act ([.ref B.1.1, .int (nI X)] : List Value).toArray wsK_act 11 G ca tL tM A := ⟨hx, hb, hml, hown, hts, hev, hX, hA⟩
  have hown : s.vm.findClass RL = some m.cls := hown
  have hl : lv_has ls 11 [(0, .ref B.1.1), (1, .int (nI X))] := hl
  refine lv_iload_n hx hb dL_act_0 rfl (lv_at hl 1 rfl) ?_
  refine lv_bipush (v := nI 16) hx hb dL_act_1 (by decide) ?_
  refine lv_irem hx hb dL_act_3 (by decide) ?_
  refine lv_eqi (pk_rem (by omega) (by omega) (by omega)) ?_
  refine lv_istore_n (lv' := [(2, .int (nI (X % 16))), (0, .ref B.1.1), (1, .int (nI X))]) hx hb dL_act_4 rfl hl (by decide) rfl (fun ls hl => ?_)
  refine lv_iload_n hx hb dL_act_5 rfl (lv_at hl 2 rfl) ?_
  refine lv_bipush (v := nI 16) hx hb dL_act_6 (by decide) ?_
  refine lv_idiv hx hb dL_act_8 (by decide) ?_
  refine lv_eqi (pk_div (by omega) (by omega) (by omega)) ?_
  refine lv_istore_n (lv' := [(3, .int (nI (X / 16))), (2, .int (nI (X % 16))), (0, .ref B.1.1), (1, .int (nI X))]) hx hb dL_act_9 rfl hl (by decide) rfl (fun ls hl => ?_)
  refine lv_iload_n hx hb dL_act_10 rfl (lv_at hl 0 rfl) ?_
  refine lv_bipush (v := nI 12) hx hb dL_act_11 (by decide) ?_
  refine lv_irem hx hb dL_act_13 (by decide) ?_
  refine lv_eqi (pk_rem (by omega) (by omega) (by omega)) ?_
  refine lv_istore (lv' := [(4, .int (nI ((X / 16) % 12))), (3, .int (nI (X / 16))), (2, .int (nI (X % 16))), (0, .ref B.1.1), (1, .int (nI X))]) hx hb dL_act_14 hl (by decide) rfl (fun ls hl => ?_)
  refine lv_iload_n hx hb dL_act_16 rfl (lv_at hl 1 rfl) ?_
  refine lv_bipush (v := nI 12) hx hb dL_act_17 (by decide) ?_
  refine lv_idiv hx hb dL_act_19 (by decide) ?_
  refine lv_eqi (pk_div (by omega) (by omega) (by omega)) ?_
  refine lv_bipush (v := nI 6) hx hb dL_act_20 (by decide) ?_
  refine lv_irem hx hb dL_act_22 (by decide) ?_
  refine lv_eqi (pk_rem (by omega) (by omega) (by omega)) ?_
  refine lv_istore (lv' := [(5, .int (nI (((X / 16) / 12) % 6))), (4, .int (nI ((X / 16) % 12))), (3, .int (nI (X / 16))), (2, .int (nI (X % 16))), (0, .ref B.1.1), (1, .int (nI X))]) hx hb dL_act_23 hl (by decide) rfl (fun ls hl => ?_)
  refine lv_iload_n hx hb dL_act_25 rfl (lv_at hl 3 rfl) ?_
  refine lv_bipush (v := nI 7) hx hb dL_act_26 (by decide) ?_
  refine lv_icmp_ge (tgt := 92) hx hb dL_act_28 (by decide) (fun c_1 => ?_) (fun c_1 => ?_)
  · skip
    refine lv_iload_n hx hb dL_act_92 rfl (lv_at hl 3 rfl) ?_
    refine lv_bipush (v := nI 10) hx hb dL_act_93 (by decide) ?_
    refine lv_icmp_ge (tgt := 209) hx hb dL_act_95 (by decide) (fun c_2 => ?_) (fun c_2 => ?_)
    · skip
      refine lv_aload_n hx hb dL_act_209 rfl (lv_at hl 4 rfl) ?_
      refine lv_bipush (v := nI 10) hx hb dL_act_210 (by decide) ?_
      refine h_op (st := []) C hS hP hD hl.1 (k_count h0 (q := 10) (by decide)) (goodIn_ls [] gL_act_X4_count act_l) rfl hd_count ⟨Nat.le_of_ble_eq_true rfl, Nat.le_of_ble_eq_true rfl⟩ rfl rfl (Nat.le_of_ble_eq_true rfl) dL_act_212 ⟨Nat.le_of_ble_eq_true rfl, Nat.le_of_ble_eq_true rfl⟩ (fun H locs hP hD hS => ?_)
      refine lv_eqi (y := s_dk v.1) (rfl) ?_
      refine lv_iload hx hb dL_act_215 (lv_at hl 1 rfl) ?_
      refine lv_ishr hx hb dL_act_217 ?_
      refine lv_iconst (v := nI 1) hx hb dL_act_218 (by decide) ?_
      refine lv_iand hx hb dL_act_219 ?_
      refine lv_iconst (v := nI 1) hx hb dL_act_220 (by decide) ?_
      refine lv_icmp_ne (tgt := 228) hx hb dL_act_221 (by decide) (fun c_3 => ?_) (fun c_3 => ?_)
      · skip
        exact absurd (dk_1 hd) c_3
      · skip
        refine lv_iconst (v := nI 1) hx hb dL_act_224 (by decide) ?_
        refine lv_goto (tgt := 229) hx hb dL_act_225 (by decide) ?_
        refine lv_istore (lv' := [(6, .int (nI 1)), (5, .int (nI (((X / 16) / 12) % 6))), (4, .int (nI ((X / 16) % 12))), (3, .int (nI (X / 16))), (2, .int (nI (X % 16))), (0, .ref B.1.1), (1, .int (nI X))]) hx hb dL_act_229 hl (by decide) rfl (fun ls hl => ?_)
        refine lv_iload_n hx hb dL_act_231 rfl (lv_at hl 4 rfl) ?_
        refine lv_bipush (v := nI 10) hx hb dL_act_232 (by decide) ?_
        refine lv_icmp_ne (tgt := 322) hx hb dL_act_234 (by decide) (fun c_4 => ?_) (fun c_4 => ?_)
        · skip
          refine lv_iload_n hx hb dL_act_322 rfl (lv_at hl 4 rfl) ?_
          refine lv_bipush (v := nI 11) hx hb dL_act_323 (by decide) ?_
          refine lv_icmp_ne (tgt := 400) hx hb dL_act_325 (by decide) (fun c_5 => ?_) (fun c_5 => ?_)
          · skip
            exact absurd ((nI_eq (a := (X % 16)) (b := 11) (by omega) (by omega)).mpr (by omega)) c_5
          · skip
            refine lv_aload_n hx hb dL_act_328 rfl (lv_at hl 5 rfl) ?_
            refine lv_iload hx hb dL_act_329 (lv_at hl 2 rfl) ?_
            refine lv_iconst (v := nI 1) hx hb dL_act_331 (by decide) ?_
            refine h_op (st := []) C hS hP hD hl.1 (k_puddle (p := X / 16 % 12) (by omega) (q := 1) (by decide)) (goodIn_ls [] gL_act_X4_puddle act_l) rfl hd_puddle ⟨Nat.le_of_ble_eq_true rfl, Nat.le_of_ble_eq_true rfl⟩ rfl rfl (Nat.le_of_ble_eq_true rfl) dL_act_332 ⟨Nat.le_of_ble_eq_true rfl, Nat.le_of_ble_eq_true rfl⟩ (fun H locs hP hD hS => ?_)
            refine lv_eqi (y := s_wa v.1 (X / 16 % 12)) (rfl) ?_
            refine lv_istore (lv' := [(7, .int (s_wa v.1 (X / 16 % 12))), (6, .int (nI 1)), (5, .int (nI (((X / 16) / 12) % 6))), (4, .int (nI ((X / 16) % 12))), (3, .int (nI (X / 16))), (2, .int (nI (X % 16))), (0, .ref B.1.1), (1, .int (nI X))]) hx hb dL_act_335 hl (by decide) rfl (fun ls hl => ?_)
            refine lv_aload_n hx hb dL_act_337 rfl (lv_at hl 6 rfl) ?_
            refine lv_iload hx hb dL_act_338 (lv_at hl 3 rfl) ?_
            refine h_op (st := []) C hS hP hD hl.1 (k_drain_ducks (p := X / 16 % 12) (by omega) hd) (goodIn_ls [] gL_act_X4_drain act_l) rfl hd_drain ⟨Nat.le_of_ble_eq_true rfl, Nat.le_of_ble_eq_true rfl⟩ rfl rfl (Nat.le_of_ble_eq_true rfl) dL_act_340 ⟨Nat.le_of_ble_eq_true rfl, Nat.le_of_ble_eq_true rfl⟩ (fun H locs hP hD hS => ?_)
            refine lv_istore (lv' := [(8, .int (-5)), (7, .int (s_wa v.1 (X / 16 % 12))), (6, .int (nI 1)), (5, .int (nI (((X / 16) / 12) % 6))), (4, .int (nI ((X / 16) % 12))), (3, .int (nI (X / 16))), (2, .int (nI (X % 16))), (0, .ref B.1.1), (1, .int (nI X))]) hx hb dL_act_343 hl (by decide) rfl (fun ls hl => ?_)
            refine lv_iload hx hb dL_act_345 (lv_at hl 2 rfl) ?_
            refine lv_if_eq (tgt := 366) hx hb dL_act_347 (by decide) (fun c_6 => ?_) (fun c_6 => ?_)
            · skip
              exact absurd c_6 (by decide)
            · skip
              refine lv_iload hx hb dL_act_350 (lv_at hl 0 rfl) ?_
              refine lv_bipush (v := (-5)) hx hb dL_act_352 (by decide) ?_
              refine lv_icmp_ne (tgt := 361) hx hb dL_act_354 (by decide) (fun c_7 => ?_) (fun c_7 => ?_)
              · skip
                exact absurd (by decide) c_7
              · skip
                refine lv_iconst (v := nI 0) hx hb dL_act_357 (by decide) ?_
                refine lv_goto (tgt := 399) hx hb dL_act_358 (by decide) ?_
                exact hret _ _ _ _ hP hS dL_act_399
        · skip
          exact absurd ((nI_eq (a := (X % 16)) (b := 10) (by omega) (by omega)).mp c_4) (by omega)
    · skip
      exact absurd (nI_le (a := 10) (b := (X % 16)) (by omega) (by omega)) c_2
  · skip
    exact absurd (nI_le (a := 7) (b := (X % 16)) (by omega) (by omega)) c_1
set_option maxHeartbeats 4000000 in
set_option maxRecDepth 100000 in
theorem c_L_act_drain1 (l : Launch) (G : va_G) (ca : Nat → ClassId) (tL tM : Nat) (B : AD) (v : VV) (n : Nat) (hs : Nat → SS) (u : Nat → Option SS) (N : NN) (bd : Nat) (hbd : bd ≤ 100) (hR : Ab B v n hs u) (h : Rn v.1 N) (b : Bd bd N) (X : Nat) (hX : X < 2 ^ 31) (hhow : X % 16 = 11) (hd : bt1 (s_dk v.1) (X / 16 % 12) = 0) : ∃ v1 : VV, Gd (bd + 1) v1.1 ∧ Ab B v1 (recN n) (consS v.1 hs) u ∧ CtS l yL_act wsK_act rmB [.ref B.1.1, .int (nI X)] G ca tL tM (XV ca B v) (XV ca B v1) (nI 1) := by
  have h0 := hR.1
  obtain ⟨v1, hv1, hR1, hk⟩ := k_drain (l := l) (G := G) (ca := ca) (tL := tL) (tM := tM) hR (p := X / 16 % 12) (by omega) hd
  have h01 := hR1.1
  refine ⟨v1, by rw [hv1]; exact g_drain h b (p := X / 16 % 12) (by omega), hR1, ?_⟩
  refine CtS.ofW (cc := cL_act) (maxL := 11) (rt := .int) (by decide) rfl (Nat.le_of_ble_eq_true rfl) rfl ?_
  intro pr en s m be me c A ls Q H hx hb hml hts hown hev hP hD hA hS hl hX hret
  have C : HC pr s m c cL_act ([.ref B.1.1, .int (nI X)] : List Value).toArray wsK_act 11 G ca tL tM A := ⟨hx, hb, hml, hown, hts, hev, hX, hA⟩
  have hown : s.vm.findClass RL = some m.cls := hown
  have hl : lv_has ls 11 [(0, .ref B.1.1), (1, .int (nI X))] := hl
  refine lv_iload_n hx hb dL_act_0 rfl (lv_at hl 1 rfl) ?_
  refine lv_bipush (v := nI 16) hx hb dL_act_1 (by decide) ?_
  refine lv_irem hx hb dL_act_3 (by decide) ?_
  refine lv_eqi (pk_rem (by omega) (by omega) (by omega)) ?_
  refine lv_istore_n (lv' := [(2, .int (nI (X % 16))), (0, .ref B.1.1), (1, .int (nI X))]) hx hb dL_act_4 rfl hl (by decide) rfl (fun ls hl => ?_)
  refine lv_iload_n hx hb dL_act_5 rfl (lv_at hl 2 rfl) ?_
  refine lv_bipush (v := nI 16) hx hb dL_act_6 (by decide) ?_
  refine lv_idiv hx hb dL_act_8 (by decide) ?_
  refine lv_eqi (pk_div (by omega) (by omega) (by omega)) ?_
  refine lv_istore_n (lv' := [(3, .int (nI (X / 16))), (2, .int (nI (X % 16))), (0, .ref B.1.1), (1, .int (nI X))]) hx hb dL_act_9 rfl hl (by decide) rfl (fun ls hl => ?_)
  refine lv_iload_n hx hb dL_act_10 rfl (lv_at hl 0 rfl) ?_
  refine lv_bipush (v := nI 12) hx hb dL_act_11 (by decide) ?_
  refine lv_irem hx hb dL_act_13 (by decide) ?_
  refine lv_eqi (pk_rem (by omega) (by omega) (by omega)) ?_
  refine lv_istore (lv' := [(4, .int (nI ((X / 16) % 12))), (3, .int (nI (X / 16))), (2, .int (nI (X % 16))), (0, .ref B.1.1), (1, .int (nI X))]) hx hb dL_act_14 hl (by decide) rfl (fun ls hl => ?_)
  refine lv_iload_n hx hb dL_act_16 rfl (lv_at hl 1 rfl) ?_
  refine lv_bipush (v := nI 12) hx hb dL_act_17 (by decide) ?_
  refine lv_idiv hx hb dL_act_19 (by decide) ?_
  refine lv_eqi (pk_div (by omega) (by omega) (by omega)) ?_
  refine lv_bipush (v := nI 6) hx hb dL_act_20 (by decide) ?_
  refine lv_irem hx hb dL_act_22 (by decide) ?_
  refine lv_eqi (pk_rem (by omega) (by omega) (by omega)) ?_
  refine lv_istore (lv' := [(5, .int (nI (((X / 16) / 12) % 6))), (4, .int (nI ((X / 16) % 12))), (3, .int (nI (X / 16))), (2, .int (nI (X % 16))), (0, .ref B.1.1), (1, .int (nI X))]) hx hb dL_act_23 hl (by decide) rfl (fun ls hl => ?_)
  refine lv_iload_n hx hb dL_act_25 rfl (lv_at hl 3 rfl) ?_
  refine lv_bipush (v := nI 7) hx hb dL_act_26 (by decide) ?_
  refine lv_icmp_ge (tgt := 92) hx hb dL_act_28 (by decide) (fun c_1 => ?_) (fun c_1 => ?_)
  · skip
    refine lv_iload_n hx hb dL_act_92 rfl (lv_at hl 3 rfl) ?_
    refine lv_bipush (v := nI 10) hx hb dL_act_93 (by decide) ?_
    refine lv_icmp_ge (tgt := 209) hx hb dL_act_95 (by decide) (fun c_2 => ?_) (fun c_2 => ?_)
    · skip
      refine lv_aload_n hx hb dL_act_209 rfl (lv_at hl 4 rfl) ?_
      refine lv_bipush (v := nI 10) hx hb dL_act_210 (by decide) ?_
      refine h_op (st := []) C hS hP hD hl.1 (k_count h0 (q := 10) (by decide)) (goodIn_ls [] gL_act_X4_count act_l) rfl hd_count ⟨Nat.le_of_ble_eq_true rfl, Nat.le_of_ble_eq_true rfl⟩ rfl rfl (Nat.le_of_ble_eq_true rfl) dL_act_212 ⟨Nat.le_of_ble_eq_true rfl, Nat.le_of_ble_eq_true rfl⟩ (fun H locs hP hD hS => ?_)
      refine lv_eqi (y := s_dk v.1) (rfl) ?_
      refine lv_iload hx hb dL_act_215 (lv_at hl 1 rfl) ?_
      refine lv_ishr hx hb dL_act_217 ?_
      refine lv_iconst (v := nI 1) hx hb dL_act_218 (by decide) ?_
      refine lv_iand hx hb dL_act_219 ?_
      refine lv_iconst (v := nI 1) hx hb dL_act_220 (by decide) ?_
      refine lv_icmp_ne (tgt := 228) hx hb dL_act_221 (by decide) (fun c_3 => ?_) (fun c_3 => ?_)
      · skip
        refine lv_iconst (v := nI 0) hx hb dL_act_228 (by decide) ?_
        refine lv_istore (lv' := [(6, .int (nI 0)), (5, .int (nI (((X / 16) / 12) % 6))), (4, .int (nI ((X / 16) % 12))), (3, .int (nI (X / 16))), (2, .int (nI (X % 16))), (0, .ref B.1.1), (1, .int (nI X))]) hx hb dL_act_229 hl (by decide) rfl (fun ls hl => ?_)
        refine lv_iload_n hx hb dL_act_231 rfl (lv_at hl 4 rfl) ?_
        refine lv_bipush (v := nI 10) hx hb dL_act_232 (by decide) ?_
        refine lv_icmp_ne (tgt := 322) hx hb dL_act_234 (by decide) (fun c_4 => ?_) (fun c_4 => ?_)
        · skip
          refine lv_iload_n hx hb dL_act_322 rfl (lv_at hl 4 rfl) ?_
          refine lv_bipush (v := nI 11) hx hb dL_act_323 (by decide) ?_
          refine lv_icmp_ne (tgt := 400) hx hb dL_act_325 (by decide) (fun c_5 => ?_) (fun c_5 => ?_)
          · skip
            exact absurd ((nI_eq (a := (X % 16)) (b := 11) (by omega) (by omega)).mpr (by omega)) c_5
          · skip
            refine lv_aload_n hx hb dL_act_328 rfl (lv_at hl 5 rfl) ?_
            refine lv_iload hx hb dL_act_329 (lv_at hl 2 rfl) ?_
            refine lv_iconst (v := nI 1) hx hb dL_act_331 (by decide) ?_
            refine h_op (st := []) C hS hP hD hl.1 (k_puddle (p := X / 16 % 12) (by omega) (q := 1) (by decide)) (goodIn_ls [] gL_act_X4_puddle act_l) rfl hd_puddle ⟨Nat.le_of_ble_eq_true rfl, Nat.le_of_ble_eq_true rfl⟩ rfl rfl (Nat.le_of_ble_eq_true rfl) dL_act_332 ⟨Nat.le_of_ble_eq_true rfl, Nat.le_of_ble_eq_true rfl⟩ (fun H locs hP hD hS => ?_)
            refine lv_eqi (y := s_wa v.1 (X / 16 % 12)) (rfl) ?_
            refine lv_istore (lv' := [(7, .int (s_wa v.1 (X / 16 % 12))), (6, .int (nI 0)), (5, .int (nI (((X / 16) / 12) % 6))), (4, .int (nI ((X / 16) % 12))), (3, .int (nI (X / 16))), (2, .int (nI (X % 16))), (0, .ref B.1.1), (1, .int (nI X))]) hx hb dL_act_335 hl (by decide) rfl (fun ls hl => ?_)
            refine lv_aload_n hx hb dL_act_337 rfl (lv_at hl 6 rfl) ?_
            refine lv_iload hx hb dL_act_338 (lv_at hl 3 rfl) ?_
            refine h_op (st := []) C hS hP hD hl.1 (hk) (goodIn_ls [] gL_act_X4_drain act_l) rfl hd_drain ⟨Nat.le_of_ble_eq_true rfl, Nat.le_of_ble_eq_true rfl⟩ rfl rfl (Nat.le_of_ble_eq_true rfl) dL_act_340 ⟨Nat.le_of_ble_eq_true rfl, Nat.le_of_ble_eq_true rfl⟩ (fun H locs hP hD hS => ?_)
            refine lv_istore (lv' := [(8, .int (s_wa v.1 (X / 16 % 12))), (7, .int (s_wa v.1 (X / 16 % 12))), (6, .int (nI 0)), (5, .int (nI (((X / 16) / 12) % 6))), (4, .int (nI ((X / 16) % 12))), (3, .int (nI (X / 16))), (2, .int (nI (X % 16))), (0, .ref B.1.1), (1, .int (nI X))]) hx hb dL_act_343 hl (by decide) rfl (fun ls hl => ?_)
            refine lv_iload hx hb dL_act_345 (lv_at hl 2 rfl) ?_
            refine lv_if_eq (tgt := 366) hx hb dL_act_347 (by decide) (fun c_6 => ?_) (fun c_6 => ?_)
            · skip
              refine lv_iload hx hb dL_act_366 (lv_at hl 0 rfl) ?_
              refine lv_iload hx hb dL_act_368 (lv_at hl 1 rfl) ?_
              refine lv_icmp_ne (tgt := 397) hx hb dL_act_370 (by decide) (fun c_7 => ?_) (fun c_7 => ?_)
              · skip
                exact absurd rfl c_7
              · skip
                refine lv_aload_n hx hb dL_act_373 rfl (lv_at hl 7 rfl) ?_
                refine lv_iload hx hb dL_act_374 (lv_at hl 4 rfl) ?_
                refine lv_iconst (v := nI 1) hx hb dL_act_376 (by decide) ?_
                refine h_op (st := []) C hS hP hD hl.1 (k_puddle (p := X / 16 % 12) (by omega) (q := 1) (by decide)) (goodIn_ls [] gL_act_X4_puddle act_l) rfl hd_puddle ⟨Nat.le_of_ble_eq_true rfl, Nat.le_of_ble_eq_true rfl⟩ rfl rfl (Nat.le_of_ble_eq_true rfl) dL_act_377 ⟨Nat.le_of_ble_eq_true rfl, Nat.le_of_ble_eq_true rfl⟩ (fun H locs hP hD hS => ?_)
                refine lv_eqi (y := nI 0) ((show s_wa v1.1 (X / 16 % 12) = _ by rw [hv1]; exact drain_1 h b (p := X / 16 % 12) (by omega))) ?_
                refine lv_if_ne (tgt := 397) hx hb dL_act_380 (by decide) (fun c_8 => ?_) (fun c_8 => ?_)
                · skip
                  exact absurd (by decide) c_8
                · skip
                  refine lv_aload_n hx hb dL_act_383 rfl (lv_at hl 7 rfl) ?_
                  refine lv_iload hx hb dL_act_384 (lv_at hl 4 rfl) ?_
                  refine lv_iconst (v := nI 3) hx hb dL_act_386 (by decide) ?_
                  refine h_op (st := []) C hS hP hD hl.1 (k_puddle (p := X / 16 % 12) (by omega) (q := 3) (by decide)) (goodIn_ls [] gL_act_X4_puddle act_l) rfl hd_puddle ⟨Nat.le_of_ble_eq_true rfl, Nat.le_of_ble_eq_true rfl⟩ rfl rfl (Nat.le_of_ble_eq_true rfl) dL_act_387 ⟨Nat.le_of_ble_eq_true rfl, Nat.le_of_ble_eq_true rfl⟩ (fun H locs hP hD hS => ?_)
                  refine lv_eqi (y := nI 0) ((show (if bt1 (s_fz v1.1) (X / 16 % 12) = 0 then (0 : Int32) else 1) = _ by rw [hv1]; exact drain_3 h b (p := X / 16 % 12) (by omega))) ?_
                  refine lv_if_ne (tgt := 397) hx hb dL_act_390 (by decide) (fun c_9 => ?_) (fun c_9 => ?_)
                  · skip
                    exact absurd (by decide) c_9
                  · skip
                    refine lv_iconst (v := nI 1) hx hb dL_act_393 (by decide) ?_
                    refine lv_goto (tgt := 399) hx hb dL_act_394 (by decide) ?_
                    exact hret _ _ _ _ hP hS dL_act_399
            · skip
              exact absurd (by decide) c_6
        · skip
          exact absurd ((nI_eq (a := (X % 16)) (b := 10) (by omega) (by omega)).mp c_4) (by omega)
      · skip
        exact absurd c_3 (dk_0 hd)
    · skip
      exact absurd (nI_le (a := 10) (b := (X % 16)) (by omega) (by omega)) c_2
  · skip
    exact absurd (nI_le (a := 7) (b := (X % 16)) (by omega) (by omega)) c_1
set_option maxHeartbeats 4000000 in
set_option maxRecDepth 100000 in
theorem c_L_act_shoes (l : Launch) (G : va_G) (ca : Nat → ClassId) (tL tM : Nat) (B : AD) (v : VV) (n : Nat) (hs : Nat → SS) (u : Nat → Option SS) (N : NN) (bd : Nat) (hbd : bd ≤ 100) (hR : Ab B v n hs u) (h : Rn v.1 N) (b : Bd bd N) (X : Nat) (hX : X < 2 ^ 31) (hhow : X % 16 = 12) : ∃ v1 : VV, Gd (bd + 1) v1.1 ∧ Ab B v1 (recN n) (consS v.1 hs) u ∧ CtS l yL_act wsK_act rmB [.ref B.1.1, .int (nI X)] G ca tL tM (XV ca B v) (XV ca B v1) (nI 1) := by
  have h0 := hR.1
  obtain ⟨v1, hv1, hR1, hk⟩ := k_shoes (l := l) (G := G) (ca := ca) (tL := tL) (tM := tM) hR (w := X / 16 / 12 % 6) (by omega) (z := nI (X / 16 % 12 % 4)) (nI_pos (by omega)) (nI_le (b := 3) (by omega) (by omega))
  have h01 := hR1.1
  refine ⟨v1, by rw [hv1]; exact g_shoes h b (w := X / 16 / 12 % 6) (q := X / 16 % 12 % 4) (by omega), hR1, ?_⟩
  refine CtS.ofW (cc := cL_act) (maxL := 11) (rt := .int) (by decide) rfl (Nat.le_of_ble_eq_true rfl) rfl ?_
  intro pr en s m be me c A ls Q H hx hb hml hts hown hev hP hD hA hS hl hX hret
  have C : HC pr s m c cL_act ([.ref B.1.1, .int (nI X)] : List Value).toArray wsK_act 11 G ca tL tM A := ⟨hx, hb, hml, hown, hts, hev, hX, hA⟩
  have hown : s.vm.findClass RL = some m.cls := hown
  have hl : lv_has ls 11 [(0, .ref B.1.1), (1, .int (nI X))] := hl
  refine lv_iload_n hx hb dL_act_0 rfl (lv_at hl 1 rfl) ?_
  refine lv_bipush (v := nI 16) hx hb dL_act_1 (by decide) ?_
  refine lv_irem hx hb dL_act_3 (by decide) ?_
  refine lv_eqi (pk_rem (by omega) (by omega) (by omega)) ?_
  refine lv_istore_n (lv' := [(2, .int (nI (X % 16))), (0, .ref B.1.1), (1, .int (nI X))]) hx hb dL_act_4 rfl hl (by decide) rfl (fun ls hl => ?_)
  refine lv_iload_n hx hb dL_act_5 rfl (lv_at hl 2 rfl) ?_
  refine lv_bipush (v := nI 16) hx hb dL_act_6 (by decide) ?_
  refine lv_idiv hx hb dL_act_8 (by decide) ?_
  refine lv_eqi (pk_div (by omega) (by omega) (by omega)) ?_
  refine lv_istore_n (lv' := [(3, .int (nI (X / 16))), (2, .int (nI (X % 16))), (0, .ref B.1.1), (1, .int (nI X))]) hx hb dL_act_9 rfl hl (by decide) rfl (fun ls hl => ?_)
  refine lv_iload_n hx hb dL_act_10 rfl (lv_at hl 0 rfl) ?_
  refine lv_bipush (v := nI 12) hx hb dL_act_11 (by decide) ?_
  refine lv_irem hx hb dL_act_13 (by decide) ?_
  refine lv_eqi (pk_rem (by omega) (by omega) (by omega)) ?_
  refine lv_istore (lv' := [(4, .int (nI ((X / 16) % 12))), (3, .int (nI (X / 16))), (2, .int (nI (X % 16))), (0, .ref B.1.1), (1, .int (nI X))]) hx hb dL_act_14 hl (by decide) rfl (fun ls hl => ?_)
  refine lv_iload_n hx hb dL_act_16 rfl (lv_at hl 1 rfl) ?_
  refine lv_bipush (v := nI 12) hx hb dL_act_17 (by decide) ?_
  refine lv_idiv hx hb dL_act_19 (by decide) ?_
  refine lv_eqi (pk_div (by omega) (by omega) (by omega)) ?_
  refine lv_bipush (v := nI 6) hx hb dL_act_20 (by decide) ?_
  refine lv_irem hx hb dL_act_22 (by decide) ?_
  refine lv_eqi (pk_rem (by omega) (by omega) (by omega)) ?_
  refine lv_istore (lv' := [(5, .int (nI (((X / 16) / 12) % 6))), (4, .int (nI ((X / 16) % 12))), (3, .int (nI (X / 16))), (2, .int (nI (X % 16))), (0, .ref B.1.1), (1, .int (nI X))]) hx hb dL_act_23 hl (by decide) rfl (fun ls hl => ?_)
  refine lv_iload_n hx hb dL_act_25 rfl (lv_at hl 3 rfl) ?_
  refine lv_bipush (v := nI 7) hx hb dL_act_26 (by decide) ?_
  refine lv_icmp_ge (tgt := 92) hx hb dL_act_28 (by decide) (fun c_1 => ?_) (fun c_1 => ?_)
  · skip
    refine lv_iload_n hx hb dL_act_92 rfl (lv_at hl 3 rfl) ?_
    refine lv_bipush (v := nI 10) hx hb dL_act_93 (by decide) ?_
    refine lv_icmp_ge (tgt := 209) hx hb dL_act_95 (by decide) (fun c_2 => ?_) (fun c_2 => ?_)
    · skip
      by_cases hd : bt1 (s_dk v.1) (X / 16 % 12) = 0
      · skip
        refine lv_aload_n hx hb dL_act_209 rfl (lv_at hl 4 rfl) ?_
        refine lv_bipush (v := nI 10) hx hb dL_act_210 (by decide) ?_
        refine h_op (st := []) C hS hP hD hl.1 (k_count h0 (q := 10) (by decide)) (goodIn_ls [] gL_act_X4_count act_l) rfl hd_count ⟨Nat.le_of_ble_eq_true rfl, Nat.le_of_ble_eq_true rfl⟩ rfl rfl (Nat.le_of_ble_eq_true rfl) dL_act_212 ⟨Nat.le_of_ble_eq_true rfl, Nat.le_of_ble_eq_true rfl⟩ (fun H locs hP hD hS => ?_)
        refine lv_eqi (y := s_dk v.1) (rfl) ?_
        refine lv_iload hx hb dL_act_215 (lv_at hl 1 rfl) ?_
        refine lv_ishr hx hb dL_act_217 ?_
        refine lv_iconst (v := nI 1) hx hb dL_act_218 (by decide) ?_
        refine lv_iand hx hb dL_act_219 ?_
        refine lv_iconst (v := nI 1) hx hb dL_act_220 (by decide) ?_
        refine lv_icmp_ne (tgt := 228) hx hb dL_act_221 (by decide) (fun c_3 => ?_) (fun c_3 => ?_)
        · skip
          refine lv_iconst (v := nI 0) hx hb dL_act_228 (by decide) ?_
          refine lv_istore (lv' := [(6, .int (nI 0)), (5, .int (nI (((X / 16) / 12) % 6))), (4, .int (nI ((X / 16) % 12))), (3, .int (nI (X / 16))), (2, .int (nI (X % 16))), (0, .ref B.1.1), (1, .int (nI X))]) hx hb dL_act_229 hl (by decide) rfl (fun ls hl => ?_)
          refine lv_iload_n hx hb dL_act_231 rfl (lv_at hl 4 rfl) ?_
          refine lv_bipush (v := nI 10) hx hb dL_act_232 (by decide) ?_
          refine lv_icmp_ne (tgt := 322) hx hb dL_act_234 (by decide) (fun c_4 => ?_) (fun c_4 => ?_)
          · skip
            refine lv_iload_n hx hb dL_act_322 rfl (lv_at hl 4 rfl) ?_
            refine lv_bipush (v := nI 11) hx hb dL_act_323 (by decide) ?_
            refine lv_icmp_ne (tgt := 400) hx hb dL_act_325 (by decide) (fun c_5 => ?_) (fun c_5 => ?_)
            · skip
              refine lv_iload_n hx hb dL_act_400 rfl (lv_at hl 4 rfl) ?_
              refine lv_bipush (v := nI 12) hx hb dL_act_401 (by decide) ?_
              refine lv_icmp_ne (tgt := 451) hx hb dL_act_403 (by decide) (fun c_6 => ?_) (fun c_6 => ?_)
              · skip
                exact absurd ((nI_eq (a := (X % 16)) (b := 12) (by omega) (by omega)).mpr (by omega)) c_6
              · skip
                refine lv_aload_n hx hb dL_act_406 rfl (lv_at hl 5 rfl) ?_
                refine lv_iload hx hb dL_act_407 (lv_at hl 1 rfl) ?_
                refine lv_iconst (v := nI 0) hx hb dL_act_409 (by decide) ?_
                refine h_op (st := []) C hS hP hD hl.1 (k_walker (w := X / 16 / 12 % 6) (by omega) (q := 0) (by decide)) (goodIn_ls [] gL_act_X4_walker act_l) rfl hd_walker ⟨Nat.le_of_ble_eq_true rfl, Nat.le_of_ble_eq_true rfl⟩ rfl rfl (Nat.le_of_ble_eq_true rfl) dL_act_410 ⟨Nat.le_of_ble_eq_true rfl, Nat.le_of_ble_eq_true rfl⟩ (fun H locs hP hD hS => ?_)
                refine lv_eqi (y := s_sh v.1 (X / 16 / 12 % 6)) (rfl) ?_
                refine lv_istore (lv' := [(7, .int (s_sh v.1 (X / 16 / 12 % 6))), (6, .int (nI 0)), (5, .int (nI (((X / 16) / 12) % 6))), (4, .int (nI ((X / 16) % 12))), (3, .int (nI (X / 16))), (2, .int (nI (X % 16))), (0, .ref B.1.1), (1, .int (nI X))]) hx hb dL_act_413 hl (by decide) rfl (fun ls hl => ?_)
                refine lv_aload_n hx hb dL_act_415 rfl (lv_at hl 6 rfl) ?_
                refine lv_iload hx hb dL_act_416 (lv_at hl 2 rfl) ?_
                refine lv_iload hx hb dL_act_418 (lv_at hl 3 rfl) ?_
                refine lv_iconst (v := nI 4) hx hb dL_act_420 (by decide) ?_
                refine lv_irem hx hb dL_act_421 (by decide) ?_
                refine lv_eqi (pk_rem (by omega) (by omega) (by omega)) ?_
                refine h_op (st := []) C hS hP hD hl.1 (hk) (goodIn_ls [] gL_act_X4_shoes act_l) rfl hd_shoes ⟨Nat.le_of_ble_eq_true rfl, Nat.le_of_ble_eq_true rfl⟩ rfl rfl (Nat.le_of_ble_eq_true rfl) dL_act_422 ⟨Nat.le_of_ble_eq_true rfl, Nat.le_of_ble_eq_true rfl⟩ (fun H locs hP hD hS => ?_)
                refine lv_iload hx hb dL_act_425 (lv_at hl 0 rfl) ?_
                refine lv_icmp_ne (tgt := 448) hx hb dL_act_427 (by decide) (fun c_7 => ?_) (fun c_7 => ?_)
                · skip
                  exact absurd rfl c_7
                · skip
                  refine lv_aload_n hx hb dL_act_430 rfl (lv_at hl 6 rfl) ?_
                  refine lv_iload hx hb dL_act_431 (lv_at hl 2 rfl) ?_
                  refine lv_iconst (v := nI 0) hx hb dL_act_433 (by decide) ?_
                  refine h_op (st := []) C hS hP hD hl.1 (k_walker (w := X / 16 / 12 % 6) (by omega) (q := 0) (by decide)) (goodIn_ls [] gL_act_X4_walker act_l) rfl hd_walker ⟨Nat.le_of_ble_eq_true rfl, Nat.le_of_ble_eq_true rfl⟩ rfl rfl (Nat.le_of_ble_eq_true rfl) dL_act_434 ⟨Nat.le_of_ble_eq_true rfl, Nat.le_of_ble_eq_true rfl⟩ (fun H locs hP hD hS => ?_)
                  refine lv_eqi (y := nI (X / 16 % 12 % 4)) ((show s_sh v1.1 (X / 16 / 12 % 6) = _ by rw [hv1]; exact upd_at _ _ _)) ?_
                  refine lv_iload hx hb dL_act_437 (lv_at hl 3 rfl) ?_
                  refine lv_iconst (v := nI 4) hx hb dL_act_439 (by decide) ?_
                  refine lv_irem hx hb dL_act_440 (by decide) ?_
                  refine lv_eqi (pk_rem (by omega) (by omega) (by omega)) ?_
                  refine lv_icmp_ne (tgt := 448) hx hb dL_act_441 (by decide) (fun c_8 => ?_) (fun c_8 => ?_)
                  · skip
                    exact absurd ((nI_eq (a := (X / 16 % 12 % 4)) (b := (((X / 16) % 12) % 4)) (by omega) (by omega)).mpr (by omega)) c_8
                  · skip
                    refine lv_iconst (v := nI 1) hx hb dL_act_444 (by decide) ?_
                    refine lv_goto (tgt := 450) hx hb dL_act_445 (by decide) ?_
                    exact hret _ _ _ _ hP hS dL_act_450
            · skip
              exact absurd ((nI_eq (a := (X % 16)) (b := 11) (by omega) (by omega)).mp c_5) (by omega)
          · skip
            exact absurd ((nI_eq (a := (X % 16)) (b := 10) (by omega) (by omega)).mp c_4) (by omega)
        · skip
          exact absurd c_3 (dk_0 hd)
      · skip
        refine lv_aload_n hx hb dL_act_209 rfl (lv_at hl 4 rfl) ?_
        refine lv_bipush (v := nI 10) hx hb dL_act_210 (by decide) ?_
        refine h_op (st := []) C hS hP hD hl.1 (k_count h0 (q := 10) (by decide)) (goodIn_ls [] gL_act_X4_count act_l) rfl hd_count ⟨Nat.le_of_ble_eq_true rfl, Nat.le_of_ble_eq_true rfl⟩ rfl rfl (Nat.le_of_ble_eq_true rfl) dL_act_212 ⟨Nat.le_of_ble_eq_true rfl, Nat.le_of_ble_eq_true rfl⟩ (fun H locs hP hD hS => ?_)
        refine lv_eqi (y := s_dk v.1) (rfl) ?_
        refine lv_iload hx hb dL_act_215 (lv_at hl 1 rfl) ?_
        refine lv_ishr hx hb dL_act_217 ?_
        refine lv_iconst (v := nI 1) hx hb dL_act_218 (by decide) ?_
        refine lv_iand hx hb dL_act_219 ?_
        refine lv_iconst (v := nI 1) hx hb dL_act_220 (by decide) ?_
        refine lv_icmp_ne (tgt := 228) hx hb dL_act_221 (by decide) (fun c_9 => ?_) (fun c_9 => ?_)
        · skip
          exact absurd (dk_1 hd) c_9
        · skip
          refine lv_iconst (v := nI 1) hx hb dL_act_224 (by decide) ?_
          refine lv_goto (tgt := 229) hx hb dL_act_225 (by decide) ?_
          refine lv_istore (lv' := [(6, .int (nI 1)), (5, .int (nI (((X / 16) / 12) % 6))), (4, .int (nI ((X / 16) % 12))), (3, .int (nI (X / 16))), (2, .int (nI (X % 16))), (0, .ref B.1.1), (1, .int (nI X))]) hx hb dL_act_229 hl (by decide) rfl (fun ls hl => ?_)
          refine lv_iload_n hx hb dL_act_231 rfl (lv_at hl 4 rfl) ?_
          refine lv_bipush (v := nI 10) hx hb dL_act_232 (by decide) ?_
          refine lv_icmp_ne (tgt := 322) hx hb dL_act_234 (by decide) (fun c_10 => ?_) (fun c_10 => ?_)
          · skip
            refine lv_iload_n hx hb dL_act_322 rfl (lv_at hl 4 rfl) ?_
            refine lv_bipush (v := nI 11) hx hb dL_act_323 (by decide) ?_
            refine lv_icmp_ne (tgt := 400) hx hb dL_act_325 (by decide) (fun c_11 => ?_) (fun c_11 => ?_)
            · skip
              refine lv_iload_n hx hb dL_act_400 rfl (lv_at hl 4 rfl) ?_
              refine lv_bipush (v := nI 12) hx hb dL_act_401 (by decide) ?_
              refine lv_icmp_ne (tgt := 451) hx hb dL_act_403 (by decide) (fun c_12 => ?_) (fun c_12 => ?_)
              · skip
                exact absurd ((nI_eq (a := (X % 16)) (b := 12) (by omega) (by omega)).mpr (by omega)) c_12
              · skip
                refine lv_aload_n hx hb dL_act_406 rfl (lv_at hl 5 rfl) ?_
                refine lv_iload hx hb dL_act_407 (lv_at hl 1 rfl) ?_
                refine lv_iconst (v := nI 0) hx hb dL_act_409 (by decide) ?_
                refine h_op (st := []) C hS hP hD hl.1 (k_walker (w := X / 16 / 12 % 6) (by omega) (q := 0) (by decide)) (goodIn_ls [] gL_act_X4_walker act_l) rfl hd_walker ⟨Nat.le_of_ble_eq_true rfl, Nat.le_of_ble_eq_true rfl⟩ rfl rfl (Nat.le_of_ble_eq_true rfl) dL_act_410 ⟨Nat.le_of_ble_eq_true rfl, Nat.le_of_ble_eq_true rfl⟩ (fun H locs hP hD hS => ?_)
                refine lv_eqi (y := s_sh v.1 (X / 16 / 12 % 6)) (rfl) ?_
                refine lv_istore (lv' := [(7, .int (s_sh v.1 (X / 16 / 12 % 6))), (6, .int (nI 1)), (5, .int (nI (((X / 16) / 12) % 6))), (4, .int (nI ((X / 16) % 12))), (3, .int (nI (X / 16))), (2, .int (nI (X % 16))), (0, .ref B.1.1), (1, .int (nI X))]) hx hb dL_act_413 hl (by decide) rfl (fun ls hl => ?_)
                refine lv_aload_n hx hb dL_act_415 rfl (lv_at hl 6 rfl) ?_
                refine lv_iload hx hb dL_act_416 (lv_at hl 2 rfl) ?_
                refine lv_iload hx hb dL_act_418 (lv_at hl 3 rfl) ?_
                refine lv_iconst (v := nI 4) hx hb dL_act_420 (by decide) ?_
                refine lv_irem hx hb dL_act_421 (by decide) ?_
                refine lv_eqi (pk_rem (by omega) (by omega) (by omega)) ?_
                refine h_op (st := []) C hS hP hD hl.1 (hk) (goodIn_ls [] gL_act_X4_shoes act_l) rfl hd_shoes ⟨Nat.le_of_ble_eq_true rfl, Nat.le_of_ble_eq_true rfl⟩ rfl rfl (Nat.le_of_ble_eq_true rfl) dL_act_422 ⟨Nat.le_of_ble_eq_true rfl, Nat.le_of_ble_eq_true rfl⟩ (fun H locs hP hD hS => ?_)
                refine lv_iload hx hb dL_act_425 (lv_at hl 0 rfl) ?_
                refine lv_icmp_ne (tgt := 448) hx hb dL_act_427 (by decide) (fun c_13 => ?_) (fun c_13 => ?_)
                · skip
                  exact absurd rfl c_13
                · skip
                  refine lv_aload_n hx hb dL_act_430 rfl (lv_at hl 6 rfl) ?_
                  refine lv_iload hx hb dL_act_431 (lv_at hl 2 rfl) ?_
                  refine lv_iconst (v := nI 0) hx hb dL_act_433 (by decide) ?_
                  refine h_op (st := []) C hS hP hD hl.1 (k_walker (w := X / 16 / 12 % 6) (by omega) (q := 0) (by decide)) (goodIn_ls [] gL_act_X4_walker act_l) rfl hd_walker ⟨Nat.le_of_ble_eq_true rfl, Nat.le_of_ble_eq_true rfl⟩ rfl rfl (Nat.le_of_ble_eq_true rfl) dL_act_434 ⟨Nat.le_of_ble_eq_true rfl, Nat.le_of_ble_eq_true rfl⟩ (fun H locs hP hD hS => ?_)
                  refine lv_eqi (y := nI (X / 16 % 12 % 4)) ((show s_sh v1.1 (X / 16 / 12 % 6) = _ by rw [hv1]; exact upd_at _ _ _)) ?_
                  refine lv_iload hx hb dL_act_437 (lv_at hl 3 rfl) ?_
                  refine lv_iconst (v := nI 4) hx hb dL_act_439 (by decide) ?_
                  refine lv_irem hx hb dL_act_440 (by decide) ?_
                  refine lv_eqi (pk_rem (by omega) (by omega) (by omega)) ?_
                  refine lv_icmp_ne (tgt := 448) hx hb dL_act_441 (by decide) (fun c_14 => ?_) (fun c_14 => ?_)
                  · skip
                    exact absurd ((nI_eq (a := (X / 16 % 12 % 4)) (b := (((X / 16) % 12) % 4)) (by omega) (by omega)).mpr (by omega)) c_14
                  · skip
                    refine lv_iconst (v := nI 1) hx hb dL_act_444 (by decide) ?_
                    refine lv_goto (tgt := 450) hx hb dL_act_445 (by decide) ?_
                    exact hret _ _ _ _ hP hS dL_act_450
            · skip
              exact absurd ((nI_eq (a := (X % 16)) (b := 11) (by omega) (by omega)).mp c_11) (by omega)
          · skip
            exact absurd ((nI_eq (a := (X % 16)) (b := 10) (by omega) (by omega)).mp c_10) (by omega)
    · skip
      exact absurd (nI_le (a := 10) (b := (X % 16)) (by omega) (by omega)) c_2
  · skip
    exact absurd (nI_le (a := 7) (b := (X % 16)) (by omega) (by omega)) c_1
set_option maxHeartbeats 4000000 in
set_option maxRecDepth 100000 in
theorem c_L_act_permit0 (l : Launch) (G : va_G) (ca : Nat → ClassId) (tL tM : Nat) (B : AD) (v : VV) (n : Nat) (hs : Nat → SS) (u : Nat → Option SS) (N : NN) (bd : Nat) (hbd : bd ≤ 100) (hR : Ab B v n hs u) (h : Rn v.1 N) (b : Bd bd N) (X : Nat) (hX : X < 2 ^ 31) (hhow : X % 16 = 13) (hd : ¬ bt1 (s_dk v.1) (X / 16 % 12) = 0) : CtS l yL_act wsK_act rmB [.ref B.1.1, .int (nI X)] G ca tL tM (XV ca B v) (XV ca B v) (nI 0) := by
  have h0 := hR.1
  refine CtS.ofW (cc := cL_act) (maxL := 11) (rt := .int) (by decide) rfl (Nat.le_of_ble_eq_true rfl) rfl ?_
  intro pr en s m be me c A ls Q H hx hb hml hts hown hev hP hD hA hS hl hX hret
  have C : HC pr s m c cL_act ([.ref B.1.1, .int (nI X)] : List Value).toArray wsK_act 11 G ca tL tM A := ⟨hx, hb, hml, hown, hts, hev, hX, hA⟩
  have hown : s.vm.findClass RL = some m.cls := hown
  have hl : lv_has ls 11 [(0, .ref B.1.1), (1, .int (nI X))] := hl
  refine lv_iload_n hx hb dL_act_0 rfl (lv_at hl 1 rfl) ?_
  refine lv_bipush (v := nI 16) hx hb dL_act_1 (by decide) ?_
  refine lv_irem hx hb dL_act_3 (by decide) ?_
  refine lv_eqi (pk_rem (by omega) (by omega) (by omega)) ?_
  refine lv_istore_n (lv' := [(2, .int (nI (X % 16))), (0, .ref B.1.1), (1, .int (nI X))]) hx hb dL_act_4 rfl hl (by decide) rfl (fun ls hl => ?_)
  refine lv_iload_n hx hb dL_act_5 rfl (lv_at hl 2 rfl) ?_
  refine lv_bipush (v := nI 16) hx hb dL_act_6 (by decide) ?_
  refine lv_idiv hx hb dL_act_8 (by decide) ?_
  refine lv_eqi (pk_div (by omega) (by omega) (by omega)) ?_
  refine lv_istore_n (lv' := [(3, .int (nI (X / 16))), (2, .int (nI (X % 16))), (0, .ref B.1.1), (1, .int (nI X))]) hx hb dL_act_9 rfl hl (by decide) rfl (fun ls hl => ?_)
  refine lv_iload_n hx hb dL_act_10 rfl (lv_at hl 0 rfl) ?_
  refine lv_bipush (v := nI 12) hx hb dL_act_11 (by decide) ?_
  refine lv_irem hx hb dL_act_13 (by decide) ?_
  refine lv_eqi (pk_rem (by omega) (by omega) (by omega)) ?_
  refine lv_istore (lv' := [(4, .int (nI ((X / 16) % 12))), (3, .int (nI (X / 16))), (2, .int (nI (X % 16))), (0, .ref B.1.1), (1, .int (nI X))]) hx hb dL_act_14 hl (by decide) rfl (fun ls hl => ?_)
  refine lv_iload_n hx hb dL_act_16 rfl (lv_at hl 1 rfl) ?_
  refine lv_bipush (v := nI 12) hx hb dL_act_17 (by decide) ?_
  refine lv_idiv hx hb dL_act_19 (by decide) ?_
  refine lv_eqi (pk_div (by omega) (by omega) (by omega)) ?_
  refine lv_bipush (v := nI 6) hx hb dL_act_20 (by decide) ?_
  refine lv_irem hx hb dL_act_22 (by decide) ?_
  refine lv_eqi (pk_rem (by omega) (by omega) (by omega)) ?_
  refine lv_istore (lv' := [(5, .int (nI (((X / 16) / 12) % 6))), (4, .int (nI ((X / 16) % 12))), (3, .int (nI (X / 16))), (2, .int (nI (X % 16))), (0, .ref B.1.1), (1, .int (nI X))]) hx hb dL_act_23 hl (by decide) rfl (fun ls hl => ?_)
  refine lv_iload_n hx hb dL_act_25 rfl (lv_at hl 3 rfl) ?_
  refine lv_bipush (v := nI 7) hx hb dL_act_26 (by decide) ?_
  refine lv_icmp_ge (tgt := 92) hx hb dL_act_28 (by decide) (fun c_1 => ?_) (fun c_1 => ?_)
  · skip
    refine lv_iload_n hx hb dL_act_92 rfl (lv_at hl 3 rfl) ?_
    refine lv_bipush (v := nI 10) hx hb dL_act_93 (by decide) ?_
    refine lv_icmp_ge (tgt := 209) hx hb dL_act_95 (by decide) (fun c_2 => ?_) (fun c_2 => ?_)
    · skip
      refine lv_aload_n hx hb dL_act_209 rfl (lv_at hl 4 rfl) ?_
      refine lv_bipush (v := nI 10) hx hb dL_act_210 (by decide) ?_
      refine h_op (st := []) C hS hP hD hl.1 (k_count h0 (q := 10) (by decide)) (goodIn_ls [] gL_act_X4_count act_l) rfl hd_count ⟨Nat.le_of_ble_eq_true rfl, Nat.le_of_ble_eq_true rfl⟩ rfl rfl (Nat.le_of_ble_eq_true rfl) dL_act_212 ⟨Nat.le_of_ble_eq_true rfl, Nat.le_of_ble_eq_true rfl⟩ (fun H locs hP hD hS => ?_)
      refine lv_eqi (y := s_dk v.1) (rfl) ?_
      refine lv_iload hx hb dL_act_215 (lv_at hl 1 rfl) ?_
      refine lv_ishr hx hb dL_act_217 ?_
      refine lv_iconst (v := nI 1) hx hb dL_act_218 (by decide) ?_
      refine lv_iand hx hb dL_act_219 ?_
      refine lv_iconst (v := nI 1) hx hb dL_act_220 (by decide) ?_
      refine lv_icmp_ne (tgt := 228) hx hb dL_act_221 (by decide) (fun c_3 => ?_) (fun c_3 => ?_)
      · skip
        exact absurd (dk_1 hd) c_3
      · skip
        refine lv_iconst (v := nI 1) hx hb dL_act_224 (by decide) ?_
        refine lv_goto (tgt := 229) hx hb dL_act_225 (by decide) ?_
        refine lv_istore (lv' := [(6, .int (nI 1)), (5, .int (nI (((X / 16) / 12) % 6))), (4, .int (nI ((X / 16) % 12))), (3, .int (nI (X / 16))), (2, .int (nI (X % 16))), (0, .ref B.1.1), (1, .int (nI X))]) hx hb dL_act_229 hl (by decide) rfl (fun ls hl => ?_)
        refine lv_iload_n hx hb dL_act_231 rfl (lv_at hl 4 rfl) ?_
        refine lv_bipush (v := nI 10) hx hb dL_act_232 (by decide) ?_
        refine lv_icmp_ne (tgt := 322) hx hb dL_act_234 (by decide) (fun c_4 => ?_) (fun c_4 => ?_)
        · skip
          refine lv_iload_n hx hb dL_act_322 rfl (lv_at hl 4 rfl) ?_
          refine lv_bipush (v := nI 11) hx hb dL_act_323 (by decide) ?_
          refine lv_icmp_ne (tgt := 400) hx hb dL_act_325 (by decide) (fun c_5 => ?_) (fun c_5 => ?_)
          · skip
            refine lv_iload_n hx hb dL_act_400 rfl (lv_at hl 4 rfl) ?_
            refine lv_bipush (v := nI 12) hx hb dL_act_401 (by decide) ?_
            refine lv_icmp_ne (tgt := 451) hx hb dL_act_403 (by decide) (fun c_6 => ?_) (fun c_6 => ?_)
            · skip
              refine lv_iload_n hx hb dL_act_451 rfl (lv_at hl 4 rfl) ?_
              refine lv_bipush (v := nI 13) hx hb dL_act_452 (by decide) ?_
              refine lv_icmp_ne (tgt := 537) hx hb dL_act_454 (by decide) (fun c_7 => ?_) (fun c_7 => ?_)
              · skip
                exact absurd ((nI_eq (a := (X % 16)) (b := 13) (by omega) (by omega)).mpr (by omega)) c_7
              · skip
                refine lv_aload_n hx hb dL_act_457 rfl (lv_at hl 5 rfl) ?_
                refine lv_iload hx hb dL_act_458 (lv_at hl 1 rfl) ?_
                refine lv_iload hx hb dL_act_460 (lv_at hl 2 rfl) ?_
                refine h_op (st := []) C hS hP hD hl.1 (k_permit_ducks (w := X / 16 / 12 % 6) (p := X / 16 % 12) (by omega) (by omega) hd) (goodIn_ls [] gL_act_X4_permit act_l) rfl hd_permit ⟨Nat.le_of_ble_eq_true rfl, Nat.le_of_ble_eq_true rfl⟩ rfl rfl (Nat.le_of_ble_eq_true rfl) dL_act_462 ⟨Nat.le_of_ble_eq_true rfl, Nat.le_of_ble_eq_true rfl⟩ (fun H locs hP hD hS => ?_)
                refine lv_istore (lv' := [(7, .int (-5)), (6, .int (nI 1)), (5, .int (nI (((X / 16) / 12) % 6))), (4, .int (nI ((X / 16) % 12))), (3, .int (nI (X / 16))), (2, .int (nI (X % 16))), (0, .ref B.1.1), (1, .int (nI X))]) hx hb dL_act_465 hl (by decide) rfl (fun ls hl => ?_)
                refine lv_iload hx hb dL_act_467 (lv_at hl 1 rfl) ?_
                refine lv_if_eq (tgt := 488) hx hb dL_act_469 (by decide) (fun c_8 => ?_) (fun c_8 => ?_)
                · skip
                  exact absurd c_8 (by decide)
                · skip
                  refine lv_iload hx hb dL_act_472 (lv_at hl 0 rfl) ?_
                  refine lv_bipush (v := (-5)) hx hb dL_act_474 (by decide) ?_
                  refine lv_icmp_ne (tgt := 483) hx hb dL_act_476 (by decide) (fun c_9 => ?_) (fun c_9 => ?_)
                  · skip
                    exact absurd (by decide) c_9
                  · skip
                    refine lv_iconst (v := nI 0) hx hb dL_act_479 (by decide) ?_
                    refine lv_goto (tgt := 536) hx hb dL_act_480 (by decide) ?_
                    exact hret _ _ _ _ hP hS dL_act_536
            · skip
              exact absurd ((nI_eq (a := (X % 16)) (b := 12) (by omega) (by omega)).mp c_6) (by omega)
          · skip
            exact absurd ((nI_eq (a := (X % 16)) (b := 11) (by omega) (by omega)).mp c_5) (by omega)
        · skip
          exact absurd ((nI_eq (a := (X % 16)) (b := 10) (by omega) (by omega)).mp c_4) (by omega)
    · skip
      exact absurd (nI_le (a := 10) (b := (X % 16)) (by omega) (by omega)) c_2
  · skip
    exact absurd (nI_le (a := 7) (b := (X % 16)) (by omega) (by omega)) c_1
set_option maxHeartbeats 4000000 in
set_option maxRecDepth 100000 in
theorem c_L_act_permit1 (l : Launch) (G : va_G) (ca : Nat → ClassId) (tL tM : Nat) (B : AD) (v : VV) (n : Nat) (hs : Nat → SS) (u : Nat → Option SS) (N : NN) (bd : Nat) (hbd : bd ≤ 100) (hR : Ab B v n hs u) (h : Rn v.1 N) (b : Bd bd N) (X : Nat) (hX : X < 2 ^ 31) (hhow : X % 16 = 13) (hd : bt1 (s_dk v.1) (X / 16 % 12) = 0) : ∃ v1 : VV, Gd (bd + 1) v1.1 ∧ Ab B v1 (recN n) (consS v.1 hs) u ∧ CtS l yL_act wsK_act rmB [.ref B.1.1, .int (nI X)] G ca tL tM (XV ca B v) (XV ca B v1) (nI 1) := by
  have h0 := hR.1
  obtain ⟨v1, hv1, hR1, hk⟩ := k_permit (l := l) (G := G) (ca := ca) (tL := tL) (tM := tM) hR (w := X / 16 / 12 % 6) (p := X / 16 % 12) (by omega) (by omega) hd
  have h01 := hR1.1
  obtain ⟨N1, g1, g2⟩ := g_permit h b ((X / 16 / 12 % 6) * 12 + (X / 16 % 12))
  rw [← hv1] at g1
  have hpl := popN_le (perN N1 (X / 16 / 12 % 6)) 12
  have hs3 := b.s3
  refine ⟨v1, ⟨N1, g1, g2⟩, hR1, ?_⟩
  refine CtS.ofW (cc := cL_act) (maxL := 11) (rt := .int) (by decide) rfl (Nat.le_of_ble_eq_true rfl) rfl ?_
  intro pr en s m be me c A ls Q H hx hb hml hts hown hev hP hD hA hS hl hX hret
  have C : HC pr s m c cL_act ([.ref B.1.1, .int (nI X)] : List Value).toArray wsK_act 11 G ca tL tM A := ⟨hx, hb, hml, hown, hts, hev, hX, hA⟩
  have hown : s.vm.findClass RL = some m.cls := hown
  have hl : lv_has ls 11 [(0, .ref B.1.1), (1, .int (nI X))] := hl
  refine lv_iload_n hx hb dL_act_0 rfl (lv_at hl 1 rfl) ?_
  refine lv_bipush (v := nI 16) hx hb dL_act_1 (by decide) ?_
  refine lv_irem hx hb dL_act_3 (by decide) ?_
  refine lv_eqi (pk_rem (by omega) (by omega) (by omega)) ?_
  refine lv_istore_n (lv' := [(2, .int (nI (X % 16))), (0, .ref B.1.1), (1, .int (nI X))]) hx hb dL_act_4 rfl hl (by decide) rfl (fun ls hl => ?_)
  refine lv_iload_n hx hb dL_act_5 rfl (lv_at hl 2 rfl) ?_
  refine lv_bipush (v := nI 16) hx hb dL_act_6 (by decide) ?_
  refine lv_idiv hx hb dL_act_8 (by decide) ?_
  refine lv_eqi (pk_div (by omega) (by omega) (by omega)) ?_
  refine lv_istore_n (lv' := [(3, .int (nI (X / 16))), (2, .int (nI (X % 16))), (0, .ref B.1.1), (1, .int (nI X))]) hx hb dL_act_9 rfl hl (by decide) rfl (fun ls hl => ?_)
  refine lv_iload_n hx hb dL_act_10 rfl (lv_at hl 0 rfl) ?_
  refine lv_bipush (v := nI 12) hx hb dL_act_11 (by decide) ?_
  refine lv_irem hx hb dL_act_13 (by decide) ?_
  refine lv_eqi (pk_rem (by omega) (by omega) (by omega)) ?_
  refine lv_istore (lv' := [(4, .int (nI ((X / 16) % 12))), (3, .int (nI (X / 16))), (2, .int (nI (X % 16))), (0, .ref B.1.1), (1, .int (nI X))]) hx hb dL_act_14 hl (by decide) rfl (fun ls hl => ?_)
  refine lv_iload_n hx hb dL_act_16 rfl (lv_at hl 1 rfl) ?_
  refine lv_bipush (v := nI 12) hx hb dL_act_17 (by decide) ?_
  refine lv_idiv hx hb dL_act_19 (by decide) ?_
  refine lv_eqi (pk_div (by omega) (by omega) (by omega)) ?_
  refine lv_bipush (v := nI 6) hx hb dL_act_20 (by decide) ?_
  refine lv_irem hx hb dL_act_22 (by decide) ?_
  refine lv_eqi (pk_rem (by omega) (by omega) (by omega)) ?_
  refine lv_istore (lv' := [(5, .int (nI (((X / 16) / 12) % 6))), (4, .int (nI ((X / 16) % 12))), (3, .int (nI (X / 16))), (2, .int (nI (X % 16))), (0, .ref B.1.1), (1, .int (nI X))]) hx hb dL_act_23 hl (by decide) rfl (fun ls hl => ?_)
  refine lv_iload_n hx hb dL_act_25 rfl (lv_at hl 3 rfl) ?_
  refine lv_bipush (v := nI 7) hx hb dL_act_26 (by decide) ?_
  refine lv_icmp_ge (tgt := 92) hx hb dL_act_28 (by decide) (fun c_1 => ?_) (fun c_1 => ?_)
  · skip
    refine lv_iload_n hx hb dL_act_92 rfl (lv_at hl 3 rfl) ?_
    refine lv_bipush (v := nI 10) hx hb dL_act_93 (by decide) ?_
    refine lv_icmp_ge (tgt := 209) hx hb dL_act_95 (by decide) (fun c_2 => ?_) (fun c_2 => ?_)
    · skip
      refine lv_aload_n hx hb dL_act_209 rfl (lv_at hl 4 rfl) ?_
      refine lv_bipush (v := nI 10) hx hb dL_act_210 (by decide) ?_
      refine h_op (st := []) C hS hP hD hl.1 (k_count h0 (q := 10) (by decide)) (goodIn_ls [] gL_act_X4_count act_l) rfl hd_count ⟨Nat.le_of_ble_eq_true rfl, Nat.le_of_ble_eq_true rfl⟩ rfl rfl (Nat.le_of_ble_eq_true rfl) dL_act_212 ⟨Nat.le_of_ble_eq_true rfl, Nat.le_of_ble_eq_true rfl⟩ (fun H locs hP hD hS => ?_)
      refine lv_eqi (y := s_dk v.1) (rfl) ?_
      refine lv_iload hx hb dL_act_215 (lv_at hl 1 rfl) ?_
      refine lv_ishr hx hb dL_act_217 ?_
      refine lv_iconst (v := nI 1) hx hb dL_act_218 (by decide) ?_
      refine lv_iand hx hb dL_act_219 ?_
      refine lv_iconst (v := nI 1) hx hb dL_act_220 (by decide) ?_
      refine lv_icmp_ne (tgt := 228) hx hb dL_act_221 (by decide) (fun c_3 => ?_) (fun c_3 => ?_)
      · skip
        refine lv_iconst (v := nI 0) hx hb dL_act_228 (by decide) ?_
        refine lv_istore (lv' := [(6, .int (nI 0)), (5, .int (nI (((X / 16) / 12) % 6))), (4, .int (nI ((X / 16) % 12))), (3, .int (nI (X / 16))), (2, .int (nI (X % 16))), (0, .ref B.1.1), (1, .int (nI X))]) hx hb dL_act_229 hl (by decide) rfl (fun ls hl => ?_)
        refine lv_iload_n hx hb dL_act_231 rfl (lv_at hl 4 rfl) ?_
        refine lv_bipush (v := nI 10) hx hb dL_act_232 (by decide) ?_
        refine lv_icmp_ne (tgt := 322) hx hb dL_act_234 (by decide) (fun c_4 => ?_) (fun c_4 => ?_)
        · skip
          refine lv_iload_n hx hb dL_act_322 rfl (lv_at hl 4 rfl) ?_
          refine lv_bipush (v := nI 11) hx hb dL_act_323 (by decide) ?_
          refine lv_icmp_ne (tgt := 400) hx hb dL_act_325 (by decide) (fun c_5 => ?_) (fun c_5 => ?_)
          · skip
            refine lv_iload_n hx hb dL_act_400 rfl (lv_at hl 4 rfl) ?_
            refine lv_bipush (v := nI 12) hx hb dL_act_401 (by decide) ?_
            refine lv_icmp_ne (tgt := 451) hx hb dL_act_403 (by decide) (fun c_6 => ?_) (fun c_6 => ?_)
            · skip
              refine lv_iload_n hx hb dL_act_451 rfl (lv_at hl 4 rfl) ?_
              refine lv_bipush (v := nI 13) hx hb dL_act_452 (by decide) ?_
              refine lv_icmp_ne (tgt := 537) hx hb dL_act_454 (by decide) (fun c_7 => ?_) (fun c_7 => ?_)
              · skip
                exact absurd ((nI_eq (a := (X % 16)) (b := 13) (by omega) (by omega)).mpr (by omega)) c_7
              · skip
                refine lv_aload_n hx hb dL_act_457 rfl (lv_at hl 5 rfl) ?_
                refine lv_iload hx hb dL_act_458 (lv_at hl 1 rfl) ?_
                refine lv_iload hx hb dL_act_460 (lv_at hl 2 rfl) ?_
                refine h_op (st := []) C hS hP hD hl.1 (hk) (goodIn_ls [] gL_act_X4_permit act_l) rfl hd_permit ⟨Nat.le_of_ble_eq_true rfl, Nat.le_of_ble_eq_true rfl⟩ rfl rfl (Nat.le_of_ble_eq_true rfl) dL_act_462 ⟨Nat.le_of_ble_eq_true rfl, Nat.le_of_ble_eq_true rfl⟩ (fun H locs hP hD hS => ?_)
                refine lv_eqi (y := nI (popN (perN N1 (X / 16 / 12 % 6)) 12)) (by have e := per_e g1 g2 (w := X / 16 / 12 % 6) (by omega); rw [hv1] at e; exact (congrArg bcN e).trans (bc_N _ (mkN_lt12 _ (Nat.le_refl _)))) ?_
                refine lv_istore (lv' := [(7, .int (nI (popN (perN N1 (X / 16 / 12 % 6)) 12))), (6, .int (nI 0)), (5, .int (nI (((X / 16) / 12) % 6))), (4, .int (nI ((X / 16) % 12))), (3, .int (nI (X / 16))), (2, .int (nI (X % 16))), (0, .ref B.1.1), (1, .int (nI X))]) hx hb dL_act_465 hl (by decide) rfl (fun ls hl => ?_)
                refine lv_iload hx hb dL_act_467 (lv_at hl 1 rfl) ?_
                refine lv_if_eq (tgt := 488) hx hb dL_act_469 (by decide) (fun c_8 => ?_) (fun c_8 => ?_)
                · skip
                  refine lv_iload hx hb dL_act_488 (lv_at hl 0 rfl) ?_
                  refine lv_aload_n hx hb dL_act_490 rfl (lv_at hl 6 rfl) ?_
                  refine lv_iload hx hb dL_act_491 (lv_at hl 2 rfl) ?_
                  refine lv_iconst (v := nI 4) hx hb dL_act_493 (by decide) ?_
                  refine h_op (st := [.int (nI (popN (perN N1 (X / 16 / 12 % 6)) 12))]) C hS hP hD hl.1 (k_walker (w := (((X / 16) / 12) % 6)) (by omega) (q := 4) (by decide)) (goodIn_ls [] gL_act_X4_walker act_l) rfl hd_walker ⟨Nat.le_of_ble_eq_true rfl, Nat.le_of_ble_eq_true rfl⟩ rfl rfl (Nat.le_of_ble_eq_true rfl) dL_act_494 ⟨Nat.le_of_ble_eq_true rfl, Nat.le_of_ble_eq_true rfl⟩ (fun H locs hP hD hS => ?_)
                  refine lv_eqi (y := nI (perN N1 (((X / 16) / 12) % 6))) (e_w4 g1 g2 (w := (((X / 16) / 12) % 6)) (by omega)) ?_
                  refine h_sz (st := [.int (nI (popN (perN N1 (X / 16 / 12 % 6)) 12))]) C hS hP hl.1 (c_L_size l G ca (m := (perN N1 (((X / 16) / 12) % 6))) (mkN_lt12 _ (by omega))) (goodIn_ls [] gL_act_L_size act_l) rfl rfl rfl hd_L_size ⟨Nat.le_of_ble_eq_true rfl, Nat.le_of_ble_eq_true rfl⟩ rfl rfl (Nat.le_of_ble_eq_true rfl) dL_act_497 ⟨Nat.le_of_ble_eq_true rfl, Nat.le_of_ble_eq_true rfl⟩ (fun H locs hP hS => ?_)
                  refine lv_icmp_ne (tgt := 534) hx hb dL_act_500 (by decide) (fun c_9 => ?_) (fun c_9 => ?_)
                  · skip
                    exact absurd ((nI_eq (a := (popN (perN N1 (X / 16 / 12 % 6)) 12)) (b := (popN (perN N1 (((X / 16) / 12) % 6)) 12)) (by omega) (by omega)).mpr (by omega)) c_9
                  · skip
                    refine lv_aload_n hx hb dL_act_503 rfl (lv_at hl 6 rfl) ?_
                    refine lv_iload hx hb dL_act_504 (lv_at hl 2 rfl) ?_
                    refine lv_iload hx hb dL_act_506 (lv_at hl 3 rfl) ?_
                    refine h_op (st := []) C hS hP hD hl.1 (k_holds (w := X / 16 / 12 % 6) (p := X / 16 % 12) (by omega) (by omega)) (goodIn_ls [] gL_act_X4_holds act_l) rfl hd_holds ⟨Nat.le_of_ble_eq_true rfl, Nat.le_of_ble_eq_true rfl⟩ rfl rfl (Nat.le_of_ble_eq_true rfl) dL_act_508 ⟨Nat.le_of_ble_eq_true rfl, Nat.le_of_ble_eq_true rfl⟩ (fun H locs hP hD hS => ?_)
                    refine lv_eqi (y := nI (n_se N 3)) (by rw [hv1]; exact hld_set h b) ?_
                    refine lv_aload_n hx hb dL_act_511 rfl (lv_at hl 6 rfl) ?_
                    refine lv_iconst (v := nI 3) hx hb dL_act_512 (by decide) ?_
                    refine h_op (st := [.int (nI (n_se N 3))]) C hS hP hD hl.1 (k_count h01 (q := 3) (by decide)) (goodIn_ls [] gL_act_X4_count act_l) rfl hd_count ⟨Nat.le_of_ble_eq_true rfl, Nat.le_of_ble_eq_true rfl⟩ rfl rfl (Nat.le_of_ble_eq_true rfl) dL_act_513 ⟨Nat.le_of_ble_eq_true rfl, Nat.le_of_ble_eq_true rfl⟩ (fun H locs hP hD hS => ?_)
                    refine lv_eqi (y := nI (n_se N 3)) ((show s_se v1.1 3 = _ by rw [hv1]; exact h.se 3 (by omega))) ?_
                    refine lv_icmp_ne (tgt := 534) hx hb dL_act_516 (by decide) (fun c_10 => ?_) (fun c_10 => ?_)
                    · skip
                      exact absurd ((nI_eq (a := (n_se N 3)) (b := (n_se N 3)) (by omega) (by omega)).mpr (by omega)) c_10
                    · skip
                      refine lv_aload_n hx hb dL_act_519 rfl (lv_at hl 6 rfl) ?_
                      refine lv_iload hx hb dL_act_520 (lv_at hl 2 rfl) ?_
                      refine lv_iload hx hb dL_act_522 (lv_at hl 3 rfl) ?_
                      refine h_op (st := []) C hS hP hD hl.1 (k_why (w := X / 16 / 12 % 6) (p := X / 16 % 12) (by omega) (by omega)) (goodIn_ls [] gL_act_X4_why act_l) rfl hd_why ⟨Nat.le_of_ble_eq_true rfl, Nat.le_of_ble_eq_true rfl⟩ rfl rfl (Nat.le_of_ble_eq_true rfl) dL_act_524 ⟨Nat.le_of_ble_eq_true rfl, Nat.le_of_ble_eq_true rfl⟩ (fun H locs hP hD hS => ?_)
                      refine lv_eqi (y := nI 0) (by rw [hv1]; exact why_set h b _ hd) ?_
                      refine lv_if_ne (tgt := 534) hx hb dL_act_527 (by decide) (fun c_11 => ?_) (fun c_11 => ?_)
                      · skip
                        exact absurd (by decide) c_11
                      · skip
                        refine lv_iconst (v := nI 1) hx hb dL_act_530 (by decide) ?_
                        refine lv_goto (tgt := 536) hx hb dL_act_531 (by decide) ?_
                        exact hret _ _ _ _ hP hS dL_act_536
                · skip
                  exact absurd (by decide) c_8
            · skip
              exact absurd ((nI_eq (a := (X % 16)) (b := 12) (by omega) (by omega)).mp c_6) (by omega)
          · skip
            exact absurd ((nI_eq (a := (X % 16)) (b := 11) (by omega) (by omega)).mp c_5) (by omega)
        · skip
          exact absurd ((nI_eq (a := (X % 16)) (b := 10) (by omega) (by omega)).mp c_4) (by omega)
      · skip
        exact absurd c_3 (dk_0 hd)
    · skip
      exact absurd (nI_le (a := 10) (b := (X % 16)) (by omega) (by omega)) c_2
  · skip
    exact absurd (nI_le (a := 7) (b := (X % 16)) (by omega) (by omega)) c_1
set_option maxHeartbeats 4000000 in
set_option maxRecDepth 100000 in
theorem c_L_act_pay (l : Launch) (G : va_G) (ca : Nat → ClassId) (tL tM : Nat) (B : AD) (v : VV) (n : Nat) (hs : Nat → SS) (u : Nat → Option SS) (N : NN) (bd : Nat) (hbd : bd ≤ 100) (hR : Ab B v n hs u) (h : Rn v.1 N) (b : Bd bd N) (X : Nat) (hX : X < 2 ^ 31) (hhow : X % 16 = 14) : ∃ v1 : VV, Gd (bd + 1) v1.1 ∧ Ab B v1 (recN n) (consS v.1 hs) u ∧ CtS l yL_act wsK_act rmB [.ref B.1.1, .int (nI X)] G ca tL tM (XV ca B v) (XV ca B v1) (nI 1) := by
  have h0 := hR.1
  obtain ⟨v1, hv1, hR1, hk⟩ := k_pay (l := l) (G := G) (ca := ca) (tL := tL) (tM := tM) hR (w := X / 16 / 12 % 6) (by omega)
  have h01 := hR1.1
  refine ⟨v1, by rw [hv1]; exact g_pay h b _ _, hR1, ?_⟩
  refine CtS.ofW (cc := cL_act) (maxL := 11) (rt := .int) (by decide) rfl (Nat.le_of_ble_eq_true rfl) rfl ?_
  intro pr en s m be me c A ls Q H hx hb hml hts hown hev hP hD hA hS hl hX hret
  have C : HC pr s m c cL_act ([.ref B.1.1, .int (nI X)] : List Value).toArray wsK_act 11 G ca tL tM A := ⟨hx, hb, hml, hown, hts, hev, hX, hA⟩
  have hown : s.vm.findClass RL = some m.cls := hown
  have hl : lv_has ls 11 [(0, .ref B.1.1), (1, .int (nI X))] := hl
  refine lv_iload_n hx hb dL_act_0 rfl (lv_at hl 1 rfl) ?_
  refine lv_bipush (v := nI 16) hx hb dL_act_1 (by decide) ?_
  refine lv_irem hx hb dL_act_3 (by decide) ?_
  refine lv_eqi (pk_rem (by omega) (by omega) (by omega)) ?_
  refine lv_istore_n (lv' := [(2, .int (nI (X % 16))), (0, .ref B.1.1), (1, .int (nI X))]) hx hb dL_act_4 rfl hl (by decide) rfl (fun ls hl => ?_)
  refine lv_iload_n hx hb dL_act_5 rfl (lv_at hl 2 rfl) ?_
  refine lv_bipush (v := nI 16) hx hb dL_act_6 (by decide) ?_
  refine lv_idiv hx hb dL_act_8 (by decide) ?_
  refine lv_eqi (pk_div (by omega) (by omega) (by omega)) ?_
  refine lv_istore_n (lv' := [(3, .int (nI (X / 16))), (2, .int (nI (X % 16))), (0, .ref B.1.1), (1, .int (nI X))]) hx hb dL_act_9 rfl hl (by decide) rfl (fun ls hl => ?_)
  refine lv_iload_n hx hb dL_act_10 rfl (lv_at hl 0 rfl) ?_
  refine lv_bipush (v := nI 12) hx hb dL_act_11 (by decide) ?_
  refine lv_irem hx hb dL_act_13 (by decide) ?_
  refine lv_eqi (pk_rem (by omega) (by omega) (by omega)) ?_
  refine lv_istore (lv' := [(4, .int (nI ((X / 16) % 12))), (3, .int (nI (X / 16))), (2, .int (nI (X % 16))), (0, .ref B.1.1), (1, .int (nI X))]) hx hb dL_act_14 hl (by decide) rfl (fun ls hl => ?_)
  refine lv_iload_n hx hb dL_act_16 rfl (lv_at hl 1 rfl) ?_
  refine lv_bipush (v := nI 12) hx hb dL_act_17 (by decide) ?_
  refine lv_idiv hx hb dL_act_19 (by decide) ?_
  refine lv_eqi (pk_div (by omega) (by omega) (by omega)) ?_
  refine lv_bipush (v := nI 6) hx hb dL_act_20 (by decide) ?_
  refine lv_irem hx hb dL_act_22 (by decide) ?_
  refine lv_eqi (pk_rem (by omega) (by omega) (by omega)) ?_
  refine lv_istore (lv' := [(5, .int (nI (((X / 16) / 12) % 6))), (4, .int (nI ((X / 16) % 12))), (3, .int (nI (X / 16))), (2, .int (nI (X % 16))), (0, .ref B.1.1), (1, .int (nI X))]) hx hb dL_act_23 hl (by decide) rfl (fun ls hl => ?_)
  refine lv_iload_n hx hb dL_act_25 rfl (lv_at hl 3 rfl) ?_
  refine lv_bipush (v := nI 7) hx hb dL_act_26 (by decide) ?_
  refine lv_icmp_ge (tgt := 92) hx hb dL_act_28 (by decide) (fun c_1 => ?_) (fun c_1 => ?_)
  · skip
    refine lv_iload_n hx hb dL_act_92 rfl (lv_at hl 3 rfl) ?_
    refine lv_bipush (v := nI 10) hx hb dL_act_93 (by decide) ?_
    refine lv_icmp_ge (tgt := 209) hx hb dL_act_95 (by decide) (fun c_2 => ?_) (fun c_2 => ?_)
    · skip
      by_cases hd : bt1 (s_dk v.1) (X / 16 % 12) = 0
      · skip
        refine lv_aload_n hx hb dL_act_209 rfl (lv_at hl 4 rfl) ?_
        refine lv_bipush (v := nI 10) hx hb dL_act_210 (by decide) ?_
        refine h_op (st := []) C hS hP hD hl.1 (k_count h0 (q := 10) (by decide)) (goodIn_ls [] gL_act_X4_count act_l) rfl hd_count ⟨Nat.le_of_ble_eq_true rfl, Nat.le_of_ble_eq_true rfl⟩ rfl rfl (Nat.le_of_ble_eq_true rfl) dL_act_212 ⟨Nat.le_of_ble_eq_true rfl, Nat.le_of_ble_eq_true rfl⟩ (fun H locs hP hD hS => ?_)
        refine lv_eqi (y := s_dk v.1) (rfl) ?_
        refine lv_iload hx hb dL_act_215 (lv_at hl 1 rfl) ?_
        refine lv_ishr hx hb dL_act_217 ?_
        refine lv_iconst (v := nI 1) hx hb dL_act_218 (by decide) ?_
        refine lv_iand hx hb dL_act_219 ?_
        refine lv_iconst (v := nI 1) hx hb dL_act_220 (by decide) ?_
        refine lv_icmp_ne (tgt := 228) hx hb dL_act_221 (by decide) (fun c_3 => ?_) (fun c_3 => ?_)
        · skip
          refine lv_iconst (v := nI 0) hx hb dL_act_228 (by decide) ?_
          refine lv_istore (lv' := [(6, .int (nI 0)), (5, .int (nI (((X / 16) / 12) % 6))), (4, .int (nI ((X / 16) % 12))), (3, .int (nI (X / 16))), (2, .int (nI (X % 16))), (0, .ref B.1.1), (1, .int (nI X))]) hx hb dL_act_229 hl (by decide) rfl (fun ls hl => ?_)
          refine lv_iload_n hx hb dL_act_231 rfl (lv_at hl 4 rfl) ?_
          refine lv_bipush (v := nI 10) hx hb dL_act_232 (by decide) ?_
          refine lv_icmp_ne (tgt := 322) hx hb dL_act_234 (by decide) (fun c_4 => ?_) (fun c_4 => ?_)
          · skip
            refine lv_iload_n hx hb dL_act_322 rfl (lv_at hl 4 rfl) ?_
            refine lv_bipush (v := nI 11) hx hb dL_act_323 (by decide) ?_
            refine lv_icmp_ne (tgt := 400) hx hb dL_act_325 (by decide) (fun c_5 => ?_) (fun c_5 => ?_)
            · skip
              refine lv_iload_n hx hb dL_act_400 rfl (lv_at hl 4 rfl) ?_
              refine lv_bipush (v := nI 12) hx hb dL_act_401 (by decide) ?_
              refine lv_icmp_ne (tgt := 451) hx hb dL_act_403 (by decide) (fun c_6 => ?_) (fun c_6 => ?_)
              · skip
                refine lv_iload_n hx hb dL_act_451 rfl (lv_at hl 4 rfl) ?_
                refine lv_bipush (v := nI 13) hx hb dL_act_452 (by decide) ?_
                refine lv_icmp_ne (tgt := 537) hx hb dL_act_454 (by decide) (fun c_7 => ?_) (fun c_7 => ?_)
                · skip
                  refine lv_iload_n hx hb dL_act_537 rfl (lv_at hl 4 rfl) ?_
                  refine lv_bipush (v := nI 14) hx hb dL_act_538 (by decide) ?_
                  refine lv_icmp_ne (tgt := 604) hx hb dL_act_540 (by decide) (fun c_8 => ?_) (fun c_8 => ?_)
                  · skip
                    exact absurd ((nI_eq (a := (X % 16)) (b := 14) (by omega) (by omega)).mpr (by omega)) c_8
                  · skip
                    refine lv_aload_n hx hb dL_act_543 rfl (lv_at hl 5 rfl) ?_
                    refine lv_iload hx hb dL_act_544 (lv_at hl 1 rfl) ?_
                    refine lv_iconst (v := nI 1) hx hb dL_act_546 (by decide) ?_
                    refine h_op (st := []) C hS hP hD hl.1 (k_walker (w := X / 16 / 12 % 6) (by omega) (q := 1) (by decide)) (goodIn_ls [] gL_act_X4_walker act_l) rfl hd_walker ⟨Nat.le_of_ble_eq_true rfl, Nat.le_of_ble_eq_true rfl⟩ rfl rfl (Nat.le_of_ble_eq_true rfl) dL_act_547 ⟨Nat.le_of_ble_eq_true rfl, Nat.le_of_ble_eq_true rfl⟩ (fun H locs hP hD hS => ?_)
                    refine lv_eqi (y := s_ow v.1 (X / 16 / 12 % 6)) (rfl) ?_
                    refine lv_istore (lv' := [(7, .int (s_ow v.1 (X / 16 / 12 % 6))), (6, .int (nI 0)), (5, .int (nI (((X / 16) / 12) % 6))), (4, .int (nI ((X / 16) % 12))), (3, .int (nI (X / 16))), (2, .int (nI (X % 16))), (0, .ref B.1.1), (1, .int (nI X))]) hx hb dL_act_550 hl (by decide) rfl (fun ls hl => ?_)
                    refine lv_aload_n hx hb dL_act_552 rfl (lv_at hl 6 rfl) ?_
                    refine lv_iload hx hb dL_act_553 (lv_at hl 2 rfl) ?_
                    refine lv_iconst (v := nI 2) hx hb dL_act_555 (by decide) ?_
                    refine h_op (st := []) C hS hP hD hl.1 (k_walker (w := X / 16 / 12 % 6) (by omega) (q := 2) (by decide)) (goodIn_ls [] gL_act_X4_walker act_l) rfl hd_walker ⟨Nat.le_of_ble_eq_true rfl, Nat.le_of_ble_eq_true rfl⟩ rfl rfl (Nat.le_of_ble_eq_true rfl) dL_act_556 ⟨Nat.le_of_ble_eq_true rfl, Nat.le_of_ble_eq_true rfl⟩ (fun H locs hP hD hS => ?_)
                    refine lv_eqi (y := s_pa v.1 (X / 16 / 12 % 6)) (rfl) ?_
                    refine lv_istore (lv' := [(8, .int (s_pa v.1 (X / 16 / 12 % 6))), (7, .int (s_ow v.1 (X / 16 / 12 % 6))), (6, .int (nI 0)), (5, .int (nI (((X / 16) / 12) % 6))), (4, .int (nI ((X / 16) % 12))), (3, .int (nI (X / 16))), (2, .int (nI (X % 16))), (0, .ref B.1.1), (1, .int (nI X))]) hx hb dL_act_559 hl (by decide) rfl (fun ls hl => ?_)
                    refine lv_aload_n hx hb dL_act_561 rfl (lv_at hl 7 rfl) ?_
                    refine lv_iload hx hb dL_act_562 (lv_at hl 3 rfl) ?_
                    refine h_op (st := []) C hS hP hD hl.1 (hk) (goodIn_ls [] gL_act_X4_pay act_l) rfl hd_pay ⟨Nat.le_of_ble_eq_true rfl, Nat.le_of_ble_eq_true rfl⟩ rfl rfl (Nat.le_of_ble_eq_true rfl) dL_act_564 ⟨Nat.le_of_ble_eq_true rfl, Nat.le_of_ble_eq_true rfl⟩ (fun H locs hP hD hS => ?_)
                    refine lv_iload hx hb dL_act_567 (lv_at hl 1 rfl) ?_
                    refine lv_icmp_ne (tgt := 601) hx hb dL_act_569 (by decide) (fun c_9 => ?_) (fun c_9 => ?_)
                    · skip
                      exact absurd rfl c_9
                    · skip
                      refine lv_aload_n hx hb dL_act_572 rfl (lv_at hl 7 rfl) ?_
                      refine lv_iload hx hb dL_act_573 (lv_at hl 3 rfl) ?_
                      refine lv_iconst (v := nI 1) hx hb dL_act_575 (by decide) ?_
                      refine h_op (st := []) C hS hP hD hl.1 (k_walker (w := X / 16 / 12 % 6) (by omega) (q := 1) (by decide)) (goodIn_ls [] gL_act_X4_walker act_l) rfl hd_walker ⟨Nat.le_of_ble_eq_true rfl, Nat.le_of_ble_eq_true rfl⟩ rfl rfl (Nat.le_of_ble_eq_true rfl) dL_act_576 ⟨Nat.le_of_ble_eq_true rfl, Nat.le_of_ble_eq_true rfl⟩ (fun H locs hP hD hS => ?_)
                      refine lv_eqi (y := nI 0) ((show s_ow v1.1 (X / 16 / 12 % 6) = _ by rw [hv1]; exact upd_at _ _ _)) ?_
                      refine lv_if_ne (tgt := 601) hx hb dL_act_579 (by decide) (fun c_10 => ?_) (fun c_10 => ?_)
                      · skip
                        exact absurd (by decide) c_10
                      · skip
                        refine lv_aload_n hx hb dL_act_582 rfl (lv_at hl 7 rfl) ?_
                        refine lv_iload hx hb dL_act_583 (lv_at hl 3 rfl) ?_
                        refine lv_iconst (v := nI 2) hx hb dL_act_585 (by decide) ?_
                        refine h_op (st := []) C hS hP hD hl.1 (k_walker (w := X / 16 / 12 % 6) (by omega) (q := 2) (by decide)) (goodIn_ls [] gL_act_X4_walker act_l) rfl hd_walker ⟨Nat.le_of_ble_eq_true rfl, Nat.le_of_ble_eq_true rfl⟩ rfl rfl (Nat.le_of_ble_eq_true rfl) dL_act_586 ⟨Nat.le_of_ble_eq_true rfl, Nat.le_of_ble_eq_true rfl⟩ (fun H locs hP hD hS => ?_)
                        refine lv_eqi (y := s_pa v1.1 (X / 16 / 12 % 6)) (rfl) ?_
                        refine lv_iload hx hb dL_act_589 (lv_at hl 0 rfl) ?_
                        refine lv_iload hx hb dL_act_591 (lv_at hl 1 rfl) ?_
                        refine lv_iadd hx hb dL_act_593 ?_
                        refine lv_icmp_ne (tgt := 601) hx hb dL_act_594 (by decide) (fun c_11 => ?_) (fun c_11 => ?_)
                        · skip
                          exact absurd (by rw [hv1]; exact upd_at _ _ _) c_11
                        · skip
                          refine lv_iconst (v := nI 1) hx hb dL_act_597 (by decide) ?_
                          refine lv_goto (tgt := 603) hx hb dL_act_598 (by decide) ?_
                          exact hret _ _ _ _ hP hS dL_act_603
                · skip
                  exact absurd ((nI_eq (a := (X % 16)) (b := 13) (by omega) (by omega)).mp c_7) (by omega)
              · skip
                exact absurd ((nI_eq (a := (X % 16)) (b := 12) (by omega) (by omega)).mp c_6) (by omega)
            · skip
              exact absurd ((nI_eq (a := (X % 16)) (b := 11) (by omega) (by omega)).mp c_5) (by omega)
          · skip
            exact absurd ((nI_eq (a := (X % 16)) (b := 10) (by omega) (by omega)).mp c_4) (by omega)
        · skip
          exact absurd c_3 (dk_0 hd)
      · skip
        refine lv_aload_n hx hb dL_act_209 rfl (lv_at hl 4 rfl) ?_
        refine lv_bipush (v := nI 10) hx hb dL_act_210 (by decide) ?_
        refine h_op (st := []) C hS hP hD hl.1 (k_count h0 (q := 10) (by decide)) (goodIn_ls [] gL_act_X4_count act_l) rfl hd_count ⟨Nat.le_of_ble_eq_true rfl, Nat.le_of_ble_eq_true rfl⟩ rfl rfl (Nat.le_of_ble_eq_true rfl) dL_act_212 ⟨Nat.le_of_ble_eq_true rfl, Nat.le_of_ble_eq_true rfl⟩ (fun H locs hP hD hS => ?_)
        refine lv_eqi (y := s_dk v.1) (rfl) ?_
        refine lv_iload hx hb dL_act_215 (lv_at hl 1 rfl) ?_
        refine lv_ishr hx hb dL_act_217 ?_
        refine lv_iconst (v := nI 1) hx hb dL_act_218 (by decide) ?_
        refine lv_iand hx hb dL_act_219 ?_
        refine lv_iconst (v := nI 1) hx hb dL_act_220 (by decide) ?_
        refine lv_icmp_ne (tgt := 228) hx hb dL_act_221 (by decide) (fun c_12 => ?_) (fun c_12 => ?_)
        · skip
          exact absurd (dk_1 hd) c_12
        · skip
          refine lv_iconst (v := nI 1) hx hb dL_act_224 (by decide) ?_
          refine lv_goto (tgt := 229) hx hb dL_act_225 (by decide) ?_
          refine lv_istore (lv' := [(6, .int (nI 1)), (5, .int (nI (((X / 16) / 12) % 6))), (4, .int (nI ((X / 16) % 12))), (3, .int (nI (X / 16))), (2, .int (nI (X % 16))), (0, .ref B.1.1), (1, .int (nI X))]) hx hb dL_act_229 hl (by decide) rfl (fun ls hl => ?_)
          refine lv_iload_n hx hb dL_act_231 rfl (lv_at hl 4 rfl) ?_
          refine lv_bipush (v := nI 10) hx hb dL_act_232 (by decide) ?_
          refine lv_icmp_ne (tgt := 322) hx hb dL_act_234 (by decide) (fun c_13 => ?_) (fun c_13 => ?_)
          · skip
            refine lv_iload_n hx hb dL_act_322 rfl (lv_at hl 4 rfl) ?_
            refine lv_bipush (v := nI 11) hx hb dL_act_323 (by decide) ?_
            refine lv_icmp_ne (tgt := 400) hx hb dL_act_325 (by decide) (fun c_14 => ?_) (fun c_14 => ?_)
            · skip
              refine lv_iload_n hx hb dL_act_400 rfl (lv_at hl 4 rfl) ?_
              refine lv_bipush (v := nI 12) hx hb dL_act_401 (by decide) ?_
              refine lv_icmp_ne (tgt := 451) hx hb dL_act_403 (by decide) (fun c_15 => ?_) (fun c_15 => ?_)
              · skip
                refine lv_iload_n hx hb dL_act_451 rfl (lv_at hl 4 rfl) ?_
                refine lv_bipush (v := nI 13) hx hb dL_act_452 (by decide) ?_
                refine lv_icmp_ne (tgt := 537) hx hb dL_act_454 (by decide) (fun c_16 => ?_) (fun c_16 => ?_)
                · skip
                  refine lv_iload_n hx hb dL_act_537 rfl (lv_at hl 4 rfl) ?_
                  refine lv_bipush (v := nI 14) hx hb dL_act_538 (by decide) ?_
                  refine lv_icmp_ne (tgt := 604) hx hb dL_act_540 (by decide) (fun c_17 => ?_) (fun c_17 => ?_)
                  · skip
                    exact absurd ((nI_eq (a := (X % 16)) (b := 14) (by omega) (by omega)).mpr (by omega)) c_17
                  · skip
                    refine lv_aload_n hx hb dL_act_543 rfl (lv_at hl 5 rfl) ?_
                    refine lv_iload hx hb dL_act_544 (lv_at hl 1 rfl) ?_
                    refine lv_iconst (v := nI 1) hx hb dL_act_546 (by decide) ?_
                    refine h_op (st := []) C hS hP hD hl.1 (k_walker (w := X / 16 / 12 % 6) (by omega) (q := 1) (by decide)) (goodIn_ls [] gL_act_X4_walker act_l) rfl hd_walker ⟨Nat.le_of_ble_eq_true rfl, Nat.le_of_ble_eq_true rfl⟩ rfl rfl (Nat.le_of_ble_eq_true rfl) dL_act_547 ⟨Nat.le_of_ble_eq_true rfl, Nat.le_of_ble_eq_true rfl⟩ (fun H locs hP hD hS => ?_)
                    refine lv_eqi (y := s_ow v.1 (X / 16 / 12 % 6)) (rfl) ?_
                    refine lv_istore (lv' := [(7, .int (s_ow v.1 (X / 16 / 12 % 6))), (6, .int (nI 1)), (5, .int (nI (((X / 16) / 12) % 6))), (4, .int (nI ((X / 16) % 12))), (3, .int (nI (X / 16))), (2, .int (nI (X % 16))), (0, .ref B.1.1), (1, .int (nI X))]) hx hb dL_act_550 hl (by decide) rfl (fun ls hl => ?_)
                    refine lv_aload_n hx hb dL_act_552 rfl (lv_at hl 6 rfl) ?_
                    refine lv_iload hx hb dL_act_553 (lv_at hl 2 rfl) ?_
                    refine lv_iconst (v := nI 2) hx hb dL_act_555 (by decide) ?_
                    refine h_op (st := []) C hS hP hD hl.1 (k_walker (w := X / 16 / 12 % 6) (by omega) (q := 2) (by decide)) (goodIn_ls [] gL_act_X4_walker act_l) rfl hd_walker ⟨Nat.le_of_ble_eq_true rfl, Nat.le_of_ble_eq_true rfl⟩ rfl rfl (Nat.le_of_ble_eq_true rfl) dL_act_556 ⟨Nat.le_of_ble_eq_true rfl, Nat.le_of_ble_eq_true rfl⟩ (fun H locs hP hD hS => ?_)
                    refine lv_eqi (y := s_pa v.1 (X / 16 / 12 % 6)) (rfl) ?_
                    refine lv_istore (lv' := [(8, .int (s_pa v.1 (X / 16 / 12 % 6))), (7, .int (s_ow v.1 (X / 16 / 12 % 6))), (6, .int (nI 1)), (5, .int (nI (((X / 16) / 12) % 6))), (4, .int (nI ((X / 16) % 12))), (3, .int (nI (X / 16))), (2, .int (nI (X % 16))), (0, .ref B.1.1), (1, .int (nI X))]) hx hb dL_act_559 hl (by decide) rfl (fun ls hl => ?_)
                    refine lv_aload_n hx hb dL_act_561 rfl (lv_at hl 7 rfl) ?_
                    refine lv_iload hx hb dL_act_562 (lv_at hl 3 rfl) ?_
                    refine h_op (st := []) C hS hP hD hl.1 (hk) (goodIn_ls [] gL_act_X4_pay act_l) rfl hd_pay ⟨Nat.le_of_ble_eq_true rfl, Nat.le_of_ble_eq_true rfl⟩ rfl rfl (Nat.le_of_ble_eq_true rfl) dL_act_564 ⟨Nat.le_of_ble_eq_true rfl, Nat.le_of_ble_eq_true rfl⟩ (fun H locs hP hD hS => ?_)
                    refine lv_iload hx hb dL_act_567 (lv_at hl 1 rfl) ?_
                    refine lv_icmp_ne (tgt := 601) hx hb dL_act_569 (by decide) (fun c_18 => ?_) (fun c_18 => ?_)
                    · skip
                      exact absurd rfl c_18
                    · skip
                      refine lv_aload_n hx hb dL_act_572 rfl (lv_at hl 7 rfl) ?_
                      refine lv_iload hx hb dL_act_573 (lv_at hl 3 rfl) ?_
                      refine lv_iconst (v := nI 1) hx hb dL_act_575 (by decide) ?_
                      refine h_op (st := []) C hS hP hD hl.1 (k_walker (w := X / 16 / 12 % 6) (by omega) (q := 1) (by decide)) (goodIn_ls [] gL_act_X4_walker act_l) rfl hd_walker ⟨Nat.le_of_ble_eq_true rfl, Nat.le_of_ble_eq_true rfl⟩ rfl rfl (Nat.le_of_ble_eq_true rfl) dL_act_576 ⟨Nat.le_of_ble_eq_true rfl, Nat.le_of_ble_eq_true rfl⟩ (fun H locs hP hD hS => ?_)
                      refine lv_eqi (y := nI 0) ((show s_ow v1.1 (X / 16 / 12 % 6) = _ by rw [hv1]; exact upd_at _ _ _)) ?_
                      refine lv_if_ne (tgt := 601) hx hb dL_act_579 (by decide) (fun c_19 => ?_) (fun c_19 => ?_)
                      · skip
                        exact absurd (by decide) c_19
                      · skip
                        refine lv_aload_n hx hb dL_act_582 rfl (lv_at hl 7 rfl) ?_
                        refine lv_iload hx hb dL_act_583 (lv_at hl 3 rfl) ?_
                        refine lv_iconst (v := nI 2) hx hb dL_act_585 (by decide) ?_
                        refine h_op (st := []) C hS hP hD hl.1 (k_walker (w := X / 16 / 12 % 6) (by omega) (q := 2) (by decide)) (goodIn_ls [] gL_act_X4_walker act_l) rfl hd_walker ⟨Nat.le_of_ble_eq_true rfl, Nat.le_of_ble_eq_true rfl⟩ rfl rfl (Nat.le_of_ble_eq_true rfl) dL_act_586 ⟨Nat.le_of_ble_eq_true rfl, Nat.le_of_ble_eq_true rfl⟩ (fun H locs hP hD hS => ?_)
                        refine lv_eqi (y := s_pa v1.1 (X / 16 / 12 % 6)) (rfl) ?_
                        refine lv_iload hx hb dL_act_589 (lv_at hl 0 rfl) ?_
                        refine lv_iload hx hb dL_act_591 (lv_at hl 1 rfl) ?_
                        refine lv_iadd hx hb dL_act_593 ?_
                        refine lv_icmp_ne (tgt := 601) hx hb dL_act_594 (by decide) (fun c_20 => ?_) (fun c_20 => ?_)
                        · skip
                          exact absurd (by rw [hv1]; exact upd_at _ _ _) c_20
                        · skip
                          refine lv_iconst (v := nI 1) hx hb dL_act_597 (by decide) ?_
                          refine lv_goto (tgt := 603) hx hb dL_act_598 (by decide) ?_
                          exact hret _ _ _ _ hP hS dL_act_603
                · skip
                  exact absurd ((nI_eq (a := (X % 16)) (b := 13) (by omega) (by omega)).mp c_16) (by omega)
              · skip
                exact absurd ((nI_eq (a := (X % 16)) (b := 12) (by omega) (by omega)).mp c_15) (by omega)
            · skip
              exact absurd ((nI_eq (a := (X % 16)) (b := 11) (by omega) (by omega)).mp c_14) (by omega)
          · skip
            exact absurd ((nI_eq (a := (X % 16)) (b := 10) (by omega) (by omega)).mp c_13) (by omega)
    · skip
      exact absurd (nI_le (a := 10) (b := (X % 16)) (by omega) (by omega)) c_2
  · skip
    exact absurd (nI_le (a := 7) (b := (X % 16)) (by omega) (by omega)) c_1
set_option maxHeartbeats 4000000 in
set_option maxRecDepth 100000 in
theorem c_L_act_set (l : Launch) (G : va_G) (ca : Nat → ClassId) (tL tM : Nat) (B : AD) (v : VV) (n : Nat) (hs : Nat → SS) (u : Nat → Option SS) (N : NN) (bd : Nat) (hbd : bd ≤ 100) (hR : Ab B v n hs u) (h : Rn v.1 N) (b : Bd bd N) (X : Nat) (hX : X < 2 ^ 31) (hhow : X % 16 = 15) : ∃ v1 : VV, Gd (bd + 1) v1.1 ∧ Ab B v1 (recN n) (consS v.1 hs) u ∧ CtS l yL_act wsK_act rmB [.ref B.1.1, .int (nI X)] G ca tL tM (XV ca B v) (XV ca B v1) (nI 1) := by
  have h0 := hR.1
  obtain ⟨q, hq⟩ : ∃ q, q = if X / 16 % 4 < 2 then X / 16 / 4 % 21 else if X / 16 % 4 = 2 then 1 + X / 16 / 4 % 50 else 1 + X / 16 / 4 % 30 := ⟨_, rfl⟩
  have q0 : (X / 16 % 4) < 2 → q ≤ 20 := fun c => by rw [hq, if_pos c]; omega
  have q2 : (X / 16 % 4) = 2 → 1 ≤ q ∧ q ≤ 99 := fun c => by rw [hq, if_neg (by omega), if_pos c]; omega
  have q3 : (X / 16 % 4) = 3 → 1 ≤ q ∧ q ≤ 30 := fun c => by rw [hq, if_neg (by omega), if_neg (by omega)]; omega
  have qb : q ≤ 50 := by rw [hq]; split <;> (try split) <;> omega
  obtain ⟨s1, s2⟩ := set_in (k := X / 16 % 4) (q := q) (by omega) q0 q2 q3
  obtain ⟨v1, hv1, hR1, hk⟩ := k_set (l := l) (G := G) (ca := ca) (tL := tL) (tM := tM) hR (k := X / 16 % 4) (by omega) (z := nI q) s1 s2
  have h01 := hR1.1
  refine ⟨v1, by rw [hv1]; exact g_set h b (k := X / 16 % 4) (q := q) (by omega) q0 q2 q3, hR1, ?_⟩
  refine CtS.ofW (cc := cL_act) (maxL := 11) (rt := .int) (by decide) rfl (Nat.le_of_ble_eq_true rfl) rfl ?_
  intro pr en s m be me c A ls Q H hx hb hml hts hown hev hP hD hA hS hl hX hret
  have C : HC pr s m c cL_act ([.ref B.1.1, .int (nI X)] : List Value).toArray wsK_act 11 G ca tL tM A := ⟨hx, hb, hml, hown, hts, hev, hX, hA⟩
  have hown : s.vm.findClass RL = some m.cls := hown
  have hl : lv_has ls 11 [(0, .ref B.1.1), (1, .int (nI X))] := hl
  refine lv_iload_n hx hb dL_act_0 rfl (lv_at hl 1 rfl) ?_
  refine lv_bipush (v := nI 16) hx hb dL_act_1 (by decide) ?_
  refine lv_irem hx hb dL_act_3 (by decide) ?_
  refine lv_eqi (pk_rem (by omega) (by omega) (by omega)) ?_
  refine lv_istore_n (lv' := [(2, .int (nI (X % 16))), (0, .ref B.1.1), (1, .int (nI X))]) hx hb dL_act_4 rfl hl (by decide) rfl (fun ls hl => ?_)
  refine lv_iload_n hx hb dL_act_5 rfl (lv_at hl 2 rfl) ?_
  refine lv_bipush (v := nI 16) hx hb dL_act_6 (by decide) ?_
  refine lv_idiv hx hb dL_act_8 (by decide) ?_
  refine lv_eqi (pk_div (by omega) (by omega) (by omega)) ?_
  refine lv_istore_n (lv' := [(3, .int (nI (X / 16))), (2, .int (nI (X % 16))), (0, .ref B.1.1), (1, .int (nI X))]) hx hb dL_act_9 rfl hl (by decide) rfl (fun ls hl => ?_)
  refine lv_iload_n hx hb dL_act_10 rfl (lv_at hl 0 rfl) ?_
  refine lv_bipush (v := nI 12) hx hb dL_act_11 (by decide) ?_
  refine lv_irem hx hb dL_act_13 (by decide) ?_
  refine lv_eqi (pk_rem (by omega) (by omega) (by omega)) ?_
  refine lv_istore (lv' := [(4, .int (nI ((X / 16) % 12))), (3, .int (nI (X / 16))), (2, .int (nI (X % 16))), (0, .ref B.1.1), (1, .int (nI X))]) hx hb dL_act_14 hl (by decide) rfl (fun ls hl => ?_)
  refine lv_iload_n hx hb dL_act_16 rfl (lv_at hl 1 rfl) ?_
  refine lv_bipush (v := nI 12) hx hb dL_act_17 (by decide) ?_
  refine lv_idiv hx hb dL_act_19 (by decide) ?_
  refine lv_eqi (pk_div (by omega) (by omega) (by omega)) ?_
  refine lv_bipush (v := nI 6) hx hb dL_act_20 (by decide) ?_
  refine lv_irem hx hb dL_act_22 (by decide) ?_
  refine lv_eqi (pk_rem (by omega) (by omega) (by omega)) ?_
  refine lv_istore (lv' := [(5, .int (nI (((X / 16) / 12) % 6))), (4, .int (nI ((X / 16) % 12))), (3, .int (nI (X / 16))), (2, .int (nI (X % 16))), (0, .ref B.1.1), (1, .int (nI X))]) hx hb dL_act_23 hl (by decide) rfl (fun ls hl => ?_)
  refine lv_iload_n hx hb dL_act_25 rfl (lv_at hl 3 rfl) ?_
  refine lv_bipush (v := nI 7) hx hb dL_act_26 (by decide) ?_
  refine lv_icmp_ge (tgt := 92) hx hb dL_act_28 (by decide) (fun c_1 => ?_) (fun c_1 => ?_)
  · skip
    refine lv_iload_n hx hb dL_act_92 rfl (lv_at hl 3 rfl) ?_
    refine lv_bipush (v := nI 10) hx hb dL_act_93 (by decide) ?_
    refine lv_icmp_ge (tgt := 209) hx hb dL_act_95 (by decide) (fun c_2 => ?_) (fun c_2 => ?_)
    · skip
      by_cases hd : bt1 (s_dk v.1) (X / 16 % 12) = 0
      · skip
        refine lv_aload_n hx hb dL_act_209 rfl (lv_at hl 4 rfl) ?_
        refine lv_bipush (v := nI 10) hx hb dL_act_210 (by decide) ?_
        refine h_op (st := []) C hS hP hD hl.1 (k_count h0 (q := 10) (by decide)) (goodIn_ls [] gL_act_X4_count act_l) rfl hd_count ⟨Nat.le_of_ble_eq_true rfl, Nat.le_of_ble_eq_true rfl⟩ rfl rfl (Nat.le_of_ble_eq_true rfl) dL_act_212 ⟨Nat.le_of_ble_eq_true rfl, Nat.le_of_ble_eq_true rfl⟩ (fun H locs hP hD hS => ?_)
        refine lv_eqi (y := s_dk v.1) (rfl) ?_
        refine lv_iload hx hb dL_act_215 (lv_at hl 1 rfl) ?_
        refine lv_ishr hx hb dL_act_217 ?_
        refine lv_iconst (v := nI 1) hx hb dL_act_218 (by decide) ?_
        refine lv_iand hx hb dL_act_219 ?_
        refine lv_iconst (v := nI 1) hx hb dL_act_220 (by decide) ?_
        refine lv_icmp_ne (tgt := 228) hx hb dL_act_221 (by decide) (fun c_3 => ?_) (fun c_3 => ?_)
        · skip
          refine lv_iconst (v := nI 0) hx hb dL_act_228 (by decide) ?_
          refine lv_istore (lv' := [(6, .int (nI 0)), (5, .int (nI (((X / 16) / 12) % 6))), (4, .int (nI ((X / 16) % 12))), (3, .int (nI (X / 16))), (2, .int (nI (X % 16))), (0, .ref B.1.1), (1, .int (nI X))]) hx hb dL_act_229 hl (by decide) rfl (fun ls hl => ?_)
          refine lv_iload_n hx hb dL_act_231 rfl (lv_at hl 4 rfl) ?_
          refine lv_bipush (v := nI 10) hx hb dL_act_232 (by decide) ?_
          refine lv_icmp_ne (tgt := 322) hx hb dL_act_234 (by decide) (fun c_4 => ?_) (fun c_4 => ?_)
          · skip
            refine lv_iload_n hx hb dL_act_322 rfl (lv_at hl 4 rfl) ?_
            refine lv_bipush (v := nI 11) hx hb dL_act_323 (by decide) ?_
            refine lv_icmp_ne (tgt := 400) hx hb dL_act_325 (by decide) (fun c_5 => ?_) (fun c_5 => ?_)
            · skip
              refine lv_iload_n hx hb dL_act_400 rfl (lv_at hl 4 rfl) ?_
              refine lv_bipush (v := nI 12) hx hb dL_act_401 (by decide) ?_
              refine lv_icmp_ne (tgt := 451) hx hb dL_act_403 (by decide) (fun c_6 => ?_) (fun c_6 => ?_)
              · skip
                refine lv_iload_n hx hb dL_act_451 rfl (lv_at hl 4 rfl) ?_
                refine lv_bipush (v := nI 13) hx hb dL_act_452 (by decide) ?_
                refine lv_icmp_ne (tgt := 537) hx hb dL_act_454 (by decide) (fun c_7 => ?_) (fun c_7 => ?_)
                · skip
                  refine lv_iload_n hx hb dL_act_537 rfl (lv_at hl 4 rfl) ?_
                  refine lv_bipush (v := nI 14) hx hb dL_act_538 (by decide) ?_
                  refine lv_icmp_ne (tgt := 604) hx hb dL_act_540 (by decide) (fun c_8 => ?_) (fun c_8 => ?_)
                  · skip
                    refine lv_iload_n hx hb dL_act_604 rfl (lv_at hl 3 rfl) ?_
                    refine lv_iconst (v := nI 4) hx hb dL_act_605 (by decide) ?_
                    refine lv_irem hx hb dL_act_606 (by decide) ?_
                    refine lv_eqi (pk_rem (by omega) (by omega) (by omega)) ?_
                    refine lv_istore (lv' := [(7, .int (nI ((X / 16) % 4))), (6, .int (nI 0)), (5, .int (nI (((X / 16) / 12) % 6))), (4, .int (nI ((X / 16) % 12))), (3, .int (nI (X / 16))), (2, .int (nI (X % 16))), (0, .ref B.1.1), (1, .int (nI X))]) hx hb dL_act_607 hl (by decide) rfl (fun ls hl => ?_)
                    refine lv_iload hx hb dL_act_609 (lv_at hl 0 rfl) ?_
                    refine lv_iconst (v := nI 2) hx hb dL_act_611 (by decide) ?_
                    refine lv_icmp_ge (tgt := 624) hx hb dL_act_612 (by decide) (fun c_9 => ?_) (fun c_9 => ?_)
                    · skip
                      have nc_9 : 2 ≤ ((X / 16) % 4) := (nI_leI (a := 2) (b := ((X / 16) % 4)) (by omega) (by omega)).mp c_9
                      refine lv_iload hx hb dL_act_624 (lv_at hl 0 rfl) ?_
                      refine lv_iconst (v := nI 2) hx hb dL_act_626 (by decide) ?_
                      refine lv_icmp_ne (tgt := 641) hx hb dL_act_627 (by decide) (fun c_10 => ?_) (fun c_10 => ?_)
                      · skip
                        have nc_10 : ¬ ((X / 16) % 4) = 2 := fun q => c_10 ((nI_eq (a := ((X / 16) % 4)) (b := 2) (by omega) (by omega)).mpr q)
                        refine lv_iconst (v := nI 1) hx hb dL_act_641 (by decide) ?_
                        refine lv_iload_n hx hb dL_act_642 rfl (lv_at hl 4 rfl) ?_
                        refine lv_iconst (v := nI 4) hx hb dL_act_643 (by decide) ?_
                        refine lv_idiv hx hb dL_act_644 (by decide) ?_
                        refine lv_eqi (pk_div (by omega) (by omega) (by omega)) ?_
                        refine lv_bipush (v := nI 30) hx hb dL_act_645 (by decide) ?_
                        refine lv_irem hx hb dL_act_647 (by decide) ?_
                        refine lv_eqi (pk_rem (by omega) (by omega) (by omega)) ?_
                        refine lv_iadd hx hb dL_act_648 ?_
                        refine lv_eqi (nI_add _ _) ?_
                        refine lv_eqi (y := nI q) (congrArg nI (by rw [hq]; split <;> (try split) <;> omega)) ?_
                        refine lv_istore (lv' := [(8, .int (nI q)), (7, .int (nI ((X / 16) % 4))), (6, .int (nI 0)), (5, .int (nI (((X / 16) / 12) % 6))), (4, .int (nI ((X / 16) % 12))), (3, .int (nI (X / 16))), (2, .int (nI (X % 16))), (0, .ref B.1.1), (1, .int (nI X))]) hx hb dL_act_649 hl (by decide) rfl (fun ls hl => ?_)
                        refine lv_aload_n hx hb dL_act_651 rfl (lv_at hl 7 rfl) ?_
                        refine lv_iload hx hb dL_act_652 (lv_at hl 1 rfl) ?_
                        refine h_op (st := []) C hS hP hD hl.1 (k_count h0 (q := X / 16 % 4) (by omega)) (goodIn_ls [] gL_act_X4_count act_l) rfl hd_count ⟨Nat.le_of_ble_eq_true rfl, Nat.le_of_ble_eq_true rfl⟩ rfl rfl (Nat.le_of_ble_eq_true rfl) dL_act_654 ⟨Nat.le_of_ble_eq_true rfl, Nat.le_of_ble_eq_true rfl⟩ (fun H locs hP hD hS => ?_)
                        refine lv_eqi (y := s_se v.1 (X / 16 % 4)) (cnt_se (by omega)) ?_
                        refine lv_istore (lv' := [(9, .int (s_se v.1 (X / 16 % 4))), (8, .int (nI q)), (7, .int (nI ((X / 16) % 4))), (6, .int (nI 0)), (5, .int (nI (((X / 16) / 12) % 6))), (4, .int (nI ((X / 16) % 12))), (3, .int (nI (X / 16))), (2, .int (nI (X % 16))), (0, .ref B.1.1), (1, .int (nI X))]) hx hb dL_act_657 hl (by decide) rfl (fun ls hl => ?_)
                        refine lv_aload_n hx hb dL_act_659 rfl (lv_at hl 8 rfl) ?_
                        refine lv_iload hx hb dL_act_660 (lv_at hl 2 rfl) ?_
                        refine lv_iload hx hb dL_act_662 (lv_at hl 1 rfl) ?_
                        refine h_op (st := []) C hS hP hD hl.1 (hk) (goodIn_ls [] gL_act_X4_set act_l) rfl hd_set ⟨Nat.le_of_ble_eq_true rfl, Nat.le_of_ble_eq_true rfl⟩ rfl rfl (Nat.le_of_ble_eq_true rfl) dL_act_664 ⟨Nat.le_of_ble_eq_true rfl, Nat.le_of_ble_eq_true rfl⟩ (fun H locs hP hD hS => ?_)
                        refine lv_iload hx hb dL_act_667 (lv_at hl 0 rfl) ?_
                        refine lv_icmp_ne (tgt := 687) hx hb dL_act_669 (by decide) (fun c_11 => ?_) (fun c_11 => ?_)
                        · skip
                          exact absurd rfl c_11
                        · skip
                          refine lv_aload_n hx hb dL_act_672 rfl (lv_at hl 8 rfl) ?_
                          refine lv_iload hx hb dL_act_673 (lv_at hl 2 rfl) ?_
                          refine h_op (st := []) C hS hP hD hl.1 (k_count h01 (q := X / 16 % 4) (by omega)) (goodIn_ls [] gL_act_X4_count act_l) rfl hd_count ⟨Nat.le_of_ble_eq_true rfl, Nat.le_of_ble_eq_true rfl⟩ rfl rfl (Nat.le_of_ble_eq_true rfl) dL_act_675 ⟨Nat.le_of_ble_eq_true rfl, Nat.le_of_ble_eq_true rfl⟩ (fun H locs hP hD hS => ?_)
                          refine lv_eqi (y := nI q) ((cnt_se (by omega)).trans (by rw [hv1]; exact upd_at _ _ _)) ?_
                          refine lv_iload hx hb dL_act_678 (lv_at hl 1 rfl) ?_
                          refine lv_icmp_ne (tgt := 687) hx hb dL_act_680 (by decide) (fun c_12 => ?_) (fun c_12 => ?_)
                          · skip
                            exact absurd ((nI_eq (a := q) (b := q) (by omega) (by omega)).mpr (by omega)) c_12
                          · skip
                            refine lv_iconst (v := nI 1) hx hb dL_act_683 (by decide) ?_
                            refine lv_goto (tgt := 689) hx hb dL_act_684 (by decide) ?_
                            exact hret _ _ _ _ hP hS dL_act_689
                      · skip
                        have nc_10 : ((X / 16) % 4) = 2 := (nI_eq (a := ((X / 16) % 4)) (b := 2) (by omega) (by omega)).mp c_10
                        refine lv_iconst (v := nI 1) hx hb dL_act_630 (by decide) ?_
                        refine lv_iload_n hx hb dL_act_631 rfl (lv_at hl 4 rfl) ?_
                        refine lv_iconst (v := nI 4) hx hb dL_act_632 (by decide) ?_
                        refine lv_idiv hx hb dL_act_633 (by decide) ?_
                        refine lv_eqi (pk_div (by omega) (by omega) (by omega)) ?_
                        refine lv_bipush (v := nI 50) hx hb dL_act_634 (by decide) ?_
                        refine lv_irem hx hb dL_act_636 (by decide) ?_
                        refine lv_eqi (pk_rem (by omega) (by omega) (by omega)) ?_
                        refine lv_iadd hx hb dL_act_637 ?_
                        refine lv_eqi (nI_add _ _) ?_
                        refine lv_goto (tgt := 649) hx hb dL_act_638 (by decide) ?_
                        refine lv_eqi (y := nI q) (congrArg nI (by rw [hq]; split <;> (try split) <;> omega)) ?_
                        refine lv_istore (lv' := [(8, .int (nI q)), (7, .int (nI ((X / 16) % 4))), (6, .int (nI 0)), (5, .int (nI (((X / 16) / 12) % 6))), (4, .int (nI ((X / 16) % 12))), (3, .int (nI (X / 16))), (2, .int (nI (X % 16))), (0, .ref B.1.1), (1, .int (nI X))]) hx hb dL_act_649 hl (by decide) rfl (fun ls hl => ?_)
                        refine lv_aload_n hx hb dL_act_651 rfl (lv_at hl 7 rfl) ?_
                        refine lv_iload hx hb dL_act_652 (lv_at hl 1 rfl) ?_
                        refine h_op (st := []) C hS hP hD hl.1 (k_count h0 (q := X / 16 % 4) (by omega)) (goodIn_ls [] gL_act_X4_count act_l) rfl hd_count ⟨Nat.le_of_ble_eq_true rfl, Nat.le_of_ble_eq_true rfl⟩ rfl rfl (Nat.le_of_ble_eq_true rfl) dL_act_654 ⟨Nat.le_of_ble_eq_true rfl, Nat.le_of_ble_eq_true rfl⟩ (fun H locs hP hD hS => ?_)
                        refine lv_eqi (y := s_se v.1 (X / 16 % 4)) (cnt_se (by omega)) ?_
                        refine lv_istore (lv' := [(9, .int (s_se v.1 (X / 16 % 4))), (8, .int (nI q)), (7, .int (nI ((X / 16) % 4))), (6, .int (nI 0)), (5, .int (nI (((X / 16) / 12) % 6))), (4, .int (nI ((X / 16) % 12))), (3, .int (nI (X / 16))), (2, .int (nI (X % 16))), (0, .ref B.1.1), (1, .int (nI X))]) hx hb dL_act_657 hl (by decide) rfl (fun ls hl => ?_)
                        refine lv_aload_n hx hb dL_act_659 rfl (lv_at hl 8 rfl) ?_
                        refine lv_iload hx hb dL_act_660 (lv_at hl 2 rfl) ?_
                        refine lv_iload hx hb dL_act_662 (lv_at hl 1 rfl) ?_
                        refine h_op (st := []) C hS hP hD hl.1 (hk) (goodIn_ls [] gL_act_X4_set act_l) rfl hd_set ⟨Nat.le_of_ble_eq_true rfl, Nat.le_of_ble_eq_true rfl⟩ rfl rfl (Nat.le_of_ble_eq_true rfl) dL_act_664 ⟨Nat.le_of_ble_eq_true rfl, Nat.le_of_ble_eq_true rfl⟩ (fun H locs hP hD hS => ?_)
                        refine lv_iload hx hb dL_act_667 (lv_at hl 0 rfl) ?_
                        refine lv_icmp_ne (tgt := 687) hx hb dL_act_669 (by decide) (fun c_13 => ?_) (fun c_13 => ?_)
                        · skip
                          exact absurd rfl c_13
                        · skip
                          refine lv_aload_n hx hb dL_act_672 rfl (lv_at hl 8 rfl) ?_
                          refine lv_iload hx hb dL_act_673 (lv_at hl 2 rfl) ?_
                          refine h_op (st := []) C hS hP hD hl.1 (k_count h01 (q := X / 16 % 4) (by omega)) (goodIn_ls [] gL_act_X4_count act_l) rfl hd_count ⟨Nat.le_of_ble_eq_true rfl, Nat.le_of_ble_eq_true rfl⟩ rfl rfl (Nat.le_of_ble_eq_true rfl) dL_act_675 ⟨Nat.le_of_ble_eq_true rfl, Nat.le_of_ble_eq_true rfl⟩ (fun H locs hP hD hS => ?_)
                          refine lv_eqi (y := nI q) ((cnt_se (by omega)).trans (by rw [hv1]; exact upd_at _ _ _)) ?_
                          refine lv_iload hx hb dL_act_678 (lv_at hl 1 rfl) ?_
                          refine lv_icmp_ne (tgt := 687) hx hb dL_act_680 (by decide) (fun c_14 => ?_) (fun c_14 => ?_)
                          · skip
                            exact absurd ((nI_eq (a := q) (b := q) (by omega) (by omega)).mpr (by omega)) c_14
                          · skip
                            refine lv_iconst (v := nI 1) hx hb dL_act_683 (by decide) ?_
                            refine lv_goto (tgt := 689) hx hb dL_act_684 (by decide) ?_
                            exact hret _ _ _ _ hP hS dL_act_689
                    · skip
                      have nc_9 : ¬ 2 ≤ ((X / 16) % 4) := fun q => c_9 ((nI_leI (a := 2) (b := ((X / 16) % 4)) (by omega) (by omega)).mpr q)
                      refine lv_iload_n hx hb dL_act_615 rfl (lv_at hl 4 rfl) ?_
                      refine lv_iconst (v := nI 4) hx hb dL_act_616 (by decide) ?_
                      refine lv_idiv hx hb dL_act_617 (by decide) ?_
                      refine lv_eqi (pk_div (by omega) (by omega) (by omega)) ?_
                      refine lv_bipush (v := nI 21) hx hb dL_act_618 (by decide) ?_
                      refine lv_irem hx hb dL_act_620 (by decide) ?_
                      refine lv_eqi (pk_rem (by omega) (by omega) (by omega)) ?_
                      refine lv_goto (tgt := 649) hx hb dL_act_621 (by decide) ?_
                      refine lv_eqi (y := nI q) (congrArg nI (by rw [hq]; split <;> (try split) <;> omega)) ?_
                      refine lv_istore (lv' := [(8, .int (nI q)), (7, .int (nI ((X / 16) % 4))), (6, .int (nI 0)), (5, .int (nI (((X / 16) / 12) % 6))), (4, .int (nI ((X / 16) % 12))), (3, .int (nI (X / 16))), (2, .int (nI (X % 16))), (0, .ref B.1.1), (1, .int (nI X))]) hx hb dL_act_649 hl (by decide) rfl (fun ls hl => ?_)
                      refine lv_aload_n hx hb dL_act_651 rfl (lv_at hl 7 rfl) ?_
                      refine lv_iload hx hb dL_act_652 (lv_at hl 1 rfl) ?_
                      refine h_op (st := []) C hS hP hD hl.1 (k_count h0 (q := X / 16 % 4) (by omega)) (goodIn_ls [] gL_act_X4_count act_l) rfl hd_count ⟨Nat.le_of_ble_eq_true rfl, Nat.le_of_ble_eq_true rfl⟩ rfl rfl (Nat.le_of_ble_eq_true rfl) dL_act_654 ⟨Nat.le_of_ble_eq_true rfl, Nat.le_of_ble_eq_true rfl⟩ (fun H locs hP hD hS => ?_)
                      refine lv_eqi (y := s_se v.1 (X / 16 % 4)) (cnt_se (by omega)) ?_
                      refine lv_istore (lv' := [(9, .int (s_se v.1 (X / 16 % 4))), (8, .int (nI q)), (7, .int (nI ((X / 16) % 4))), (6, .int (nI 0)), (5, .int (nI (((X / 16) / 12) % 6))), (4, .int (nI ((X / 16) % 12))), (3, .int (nI (X / 16))), (2, .int (nI (X % 16))), (0, .ref B.1.1), (1, .int (nI X))]) hx hb dL_act_657 hl (by decide) rfl (fun ls hl => ?_)
                      refine lv_aload_n hx hb dL_act_659 rfl (lv_at hl 8 rfl) ?_
                      refine lv_iload hx hb dL_act_660 (lv_at hl 2 rfl) ?_
                      refine lv_iload hx hb dL_act_662 (lv_at hl 1 rfl) ?_
                      refine h_op (st := []) C hS hP hD hl.1 (hk) (goodIn_ls [] gL_act_X4_set act_l) rfl hd_set ⟨Nat.le_of_ble_eq_true rfl, Nat.le_of_ble_eq_true rfl⟩ rfl rfl (Nat.le_of_ble_eq_true rfl) dL_act_664 ⟨Nat.le_of_ble_eq_true rfl, Nat.le_of_ble_eq_true rfl⟩ (fun H locs hP hD hS => ?_)
                      refine lv_iload hx hb dL_act_667 (lv_at hl 0 rfl) ?_
                      refine lv_icmp_ne (tgt := 687) hx hb dL_act_669 (by decide) (fun c_15 => ?_) (fun c_15 => ?_)
                      · skip
                        exact absurd rfl c_15
                      · skip
                        refine lv_aload_n hx hb dL_act_672 rfl (lv_at hl 8 rfl) ?_
                        refine lv_iload hx hb dL_act_673 (lv_at hl 2 rfl) ?_
                        refine h_op (st := []) C hS hP hD hl.1 (k_count h01 (q := X / 16 % 4) (by omega)) (goodIn_ls [] gL_act_X4_count act_l) rfl hd_count ⟨Nat.le_of_ble_eq_true rfl, Nat.le_of_ble_eq_true rfl⟩ rfl rfl (Nat.le_of_ble_eq_true rfl) dL_act_675 ⟨Nat.le_of_ble_eq_true rfl, Nat.le_of_ble_eq_true rfl⟩ (fun H locs hP hD hS => ?_)
                        refine lv_eqi (y := nI q) ((cnt_se (by omega)).trans (by rw [hv1]; exact upd_at _ _ _)) ?_
                        refine lv_iload hx hb dL_act_678 (lv_at hl 1 rfl) ?_
                        refine lv_icmp_ne (tgt := 687) hx hb dL_act_680 (by decide) (fun c_16 => ?_) (fun c_16 => ?_)
                        · skip
                          exact absurd ((nI_eq (a := q) (b := q) (by omega) (by omega)).mpr (by omega)) c_16
                        · skip
                          refine lv_iconst (v := nI 1) hx hb dL_act_683 (by decide) ?_
                          refine lv_goto (tgt := 689) hx hb dL_act_684 (by decide) ?_
                          exact hret _ _ _ _ hP hS dL_act_689
                  · skip
                    exact absurd ((nI_eq (a := (X % 16)) (b := 14) (by omega) (by omega)).mp c_8) (by omega)
                · skip
                  exact absurd ((nI_eq (a := (X % 16)) (b := 13) (by omega) (by omega)).mp c_7) (by omega)
              · skip
                exact absurd ((nI_eq (a := (X % 16)) (b := 12) (by omega) (by omega)).mp c_6) (by omega)
            · skip
              exact absurd ((nI_eq (a := (X % 16)) (b := 11) (by omega) (by omega)).mp c_5) (by omega)
          · skip
            exact absurd ((nI_eq (a := (X % 16)) (b := 10) (by omega) (by omega)).mp c_4) (by omega)
        · skip
          exact absurd c_3 (dk_0 hd)
      · skip
        refine lv_aload_n hx hb dL_act_209 rfl (lv_at hl 4 rfl) ?_
        refine lv_bipush (v := nI 10) hx hb dL_act_210 (by decide) ?_
        refine h_op (st := []) C hS hP hD hl.1 (k_count h0 (q := 10) (by decide)) (goodIn_ls [] gL_act_X4_count act_l) rfl hd_count ⟨Nat.le_of_ble_eq_true rfl, Nat.le_of_ble_eq_true rfl⟩ rfl rfl (Nat.le_of_ble_eq_true rfl) dL_act_212 ⟨Nat.le_of_ble_eq_true rfl, Nat.le_of_ble_eq_true rfl⟩ (fun H locs hP hD hS => ?_)
        refine lv_eqi (y := s_dk v.1) (rfl) ?_
        refine lv_iload hx hb dL_act_215 (lv_at hl 1 rfl) ?_
        refine lv_ishr hx hb dL_act_217 ?_
        refine lv_iconst (v := nI 1) hx hb dL_act_218 (by decide) ?_
        refine lv_iand hx hb dL_act_219 ?_
        refine lv_iconst (v := nI 1) hx hb dL_act_220 (by decide) ?_
        refine lv_icmp_ne (tgt := 228) hx hb dL_act_221 (by decide) (fun c_17 => ?_) (fun c_17 => ?_)
        · skip
          exact absurd (dk_1 hd) c_17
        · skip
          refine lv_iconst (v := nI 1) hx hb dL_act_224 (by decide) ?_
          refine lv_goto (tgt := 229) hx hb dL_act_225 (by decide) ?_
          refine lv_istore (lv' := [(6, .int (nI 1)), (5, .int (nI (((X / 16) / 12) % 6))), (4, .int (nI ((X / 16) % 12))), (3, .int (nI (X / 16))), (2, .int (nI (X % 16))), (0, .ref B.1.1), (1, .int (nI X))]) hx hb dL_act_229 hl (by decide) rfl (fun ls hl => ?_)
          refine lv_iload_n hx hb dL_act_231 rfl (lv_at hl 4 rfl) ?_
          refine lv_bipush (v := nI 10) hx hb dL_act_232 (by decide) ?_
          refine lv_icmp_ne (tgt := 322) hx hb dL_act_234 (by decide) (fun c_18 => ?_) (fun c_18 => ?_)
          · skip
            refine lv_iload_n hx hb dL_act_322 rfl (lv_at hl 4 rfl) ?_
            refine lv_bipush (v := nI 11) hx hb dL_act_323 (by decide) ?_
            refine lv_icmp_ne (tgt := 400) hx hb dL_act_325 (by decide) (fun c_19 => ?_) (fun c_19 => ?_)
            · skip
              refine lv_iload_n hx hb dL_act_400 rfl (lv_at hl 4 rfl) ?_
              refine lv_bipush (v := nI 12) hx hb dL_act_401 (by decide) ?_
              refine lv_icmp_ne (tgt := 451) hx hb dL_act_403 (by decide) (fun c_20 => ?_) (fun c_20 => ?_)
              · skip
                refine lv_iload_n hx hb dL_act_451 rfl (lv_at hl 4 rfl) ?_
                refine lv_bipush (v := nI 13) hx hb dL_act_452 (by decide) ?_
                refine lv_icmp_ne (tgt := 537) hx hb dL_act_454 (by decide) (fun c_21 => ?_) (fun c_21 => ?_)
                · skip
                  refine lv_iload_n hx hb dL_act_537 rfl (lv_at hl 4 rfl) ?_
                  refine lv_bipush (v := nI 14) hx hb dL_act_538 (by decide) ?_
                  refine lv_icmp_ne (tgt := 604) hx hb dL_act_540 (by decide) (fun c_22 => ?_) (fun c_22 => ?_)
                  · skip
                    refine lv_iload_n hx hb dL_act_604 rfl (lv_at hl 3 rfl) ?_
                    refine lv_iconst (v := nI 4) hx hb dL_act_605 (by decide) ?_
                    refine lv_irem hx hb dL_act_606 (by decide) ?_
                    refine lv_eqi (pk_rem (by omega) (by omega) (by omega)) ?_
                    refine lv_istore (lv' := [(7, .int (nI ((X / 16) % 4))), (6, .int (nI 1)), (5, .int (nI (((X / 16) / 12) % 6))), (4, .int (nI ((X / 16) % 12))), (3, .int (nI (X / 16))), (2, .int (nI (X % 16))), (0, .ref B.1.1), (1, .int (nI X))]) hx hb dL_act_607 hl (by decide) rfl (fun ls hl => ?_)
                    refine lv_iload hx hb dL_act_609 (lv_at hl 0 rfl) ?_
                    refine lv_iconst (v := nI 2) hx hb dL_act_611 (by decide) ?_
                    refine lv_icmp_ge (tgt := 624) hx hb dL_act_612 (by decide) (fun c_23 => ?_) (fun c_23 => ?_)
                    · skip
                      have nc_23 : 2 ≤ ((X / 16) % 4) := (nI_leI (a := 2) (b := ((X / 16) % 4)) (by omega) (by omega)).mp c_23
                      refine lv_iload hx hb dL_act_624 (lv_at hl 0 rfl) ?_
                      refine lv_iconst (v := nI 2) hx hb dL_act_626 (by decide) ?_
                      refine lv_icmp_ne (tgt := 641) hx hb dL_act_627 (by decide) (fun c_24 => ?_) (fun c_24 => ?_)
                      · skip
                        have nc_24 : ¬ ((X / 16) % 4) = 2 := fun q => c_24 ((nI_eq (a := ((X / 16) % 4)) (b := 2) (by omega) (by omega)).mpr q)
                        refine lv_iconst (v := nI 1) hx hb dL_act_641 (by decide) ?_
                        refine lv_iload_n hx hb dL_act_642 rfl (lv_at hl 4 rfl) ?_
                        refine lv_iconst (v := nI 4) hx hb dL_act_643 (by decide) ?_
                        refine lv_idiv hx hb dL_act_644 (by decide) ?_
                        refine lv_eqi (pk_div (by omega) (by omega) (by omega)) ?_
                        refine lv_bipush (v := nI 30) hx hb dL_act_645 (by decide) ?_
                        refine lv_irem hx hb dL_act_647 (by decide) ?_
                        refine lv_eqi (pk_rem (by omega) (by omega) (by omega)) ?_
                        refine lv_iadd hx hb dL_act_648 ?_
                        refine lv_eqi (nI_add _ _) ?_
                        refine lv_eqi (y := nI q) (congrArg nI (by rw [hq]; split <;> (try split) <;> omega)) ?_
                        refine lv_istore (lv' := [(8, .int (nI q)), (7, .int (nI ((X / 16) % 4))), (6, .int (nI 1)), (5, .int (nI (((X / 16) / 12) % 6))), (4, .int (nI ((X / 16) % 12))), (3, .int (nI (X / 16))), (2, .int (nI (X % 16))), (0, .ref B.1.1), (1, .int (nI X))]) hx hb dL_act_649 hl (by decide) rfl (fun ls hl => ?_)
                        refine lv_aload_n hx hb dL_act_651 rfl (lv_at hl 7 rfl) ?_
                        refine lv_iload hx hb dL_act_652 (lv_at hl 1 rfl) ?_
                        refine h_op (st := []) C hS hP hD hl.1 (k_count h0 (q := X / 16 % 4) (by omega)) (goodIn_ls [] gL_act_X4_count act_l) rfl hd_count ⟨Nat.le_of_ble_eq_true rfl, Nat.le_of_ble_eq_true rfl⟩ rfl rfl (Nat.le_of_ble_eq_true rfl) dL_act_654 ⟨Nat.le_of_ble_eq_true rfl, Nat.le_of_ble_eq_true rfl⟩ (fun H locs hP hD hS => ?_)
                        refine lv_eqi (y := s_se v.1 (X / 16 % 4)) (cnt_se (by omega)) ?_
                        refine lv_istore (lv' := [(9, .int (s_se v.1 (X / 16 % 4))), (8, .int (nI q)), (7, .int (nI ((X / 16) % 4))), (6, .int (nI 1)), (5, .int (nI (((X / 16) / 12) % 6))), (4, .int (nI ((X / 16) % 12))), (3, .int (nI (X / 16))), (2, .int (nI (X % 16))), (0, .ref B.1.1), (1, .int (nI X))]) hx hb dL_act_657 hl (by decide) rfl (fun ls hl => ?_)
                        refine lv_aload_n hx hb dL_act_659 rfl (lv_at hl 8 rfl) ?_
                        refine lv_iload hx hb dL_act_660 (lv_at hl 2 rfl) ?_
                        refine lv_iload hx hb dL_act_662 (lv_at hl 1 rfl) ?_
                        refine h_op (st := []) C hS hP hD hl.1 (hk) (goodIn_ls [] gL_act_X4_set act_l) rfl hd_set ⟨Nat.le_of_ble_eq_true rfl, Nat.le_of_ble_eq_true rfl⟩ rfl rfl (Nat.le_of_ble_eq_true rfl) dL_act_664 ⟨Nat.le_of_ble_eq_true rfl, Nat.le_of_ble_eq_true rfl⟩ (fun H locs hP hD hS => ?_)
                        refine lv_iload hx hb dL_act_667 (lv_at hl 0 rfl) ?_
                        refine lv_icmp_ne (tgt := 687) hx hb dL_act_669 (by decide) (fun c_25 => ?_) (fun c_25 => ?_)
                        · skip
                          exact absurd rfl c_25
                        · skip
                          refine lv_aload_n hx hb dL_act_672 rfl (lv_at hl 8 rfl) ?_
                          refine lv_iload hx hb dL_act_673 (lv_at hl 2 rfl) ?_
                          refine h_op (st := []) C hS hP hD hl.1 (k_count h01 (q := X / 16 % 4) (by omega)) (goodIn_ls [] gL_act_X4_count act_l) rfl hd_count ⟨Nat.le_of_ble_eq_true rfl, Nat.le_of_ble_eq_true rfl⟩ rfl rfl (Nat.le_of_ble_eq_true rfl) dL_act_675 ⟨Nat.le_of_ble_eq_true rfl, Nat.le_of_ble_eq_true rfl⟩ (fun H locs hP hD hS => ?_)
                          refine lv_eqi (y := nI q) ((cnt_se (by omega)).trans (by rw [hv1]; exact upd_at _ _ _)) ?_
                          refine lv_iload hx hb dL_act_678 (lv_at hl 1 rfl) ?_
                          refine lv_icmp_ne (tgt := 687) hx hb dL_act_680 (by decide) (fun c_26 => ?_) (fun c_26 => ?_)
                          · skip
                            exact absurd ((nI_eq (a := q) (b := q) (by omega) (by omega)).mpr (by omega)) c_26
                          · skip
                            refine lv_iconst (v := nI 1) hx hb dL_act_683 (by decide) ?_
                            refine lv_goto (tgt := 689) hx hb dL_act_684 (by decide) ?_
                            exact hret _ _ _ _ hP hS dL_act_689
                      · skip
                        have nc_24 : ((X / 16) % 4) = 2 := (nI_eq (a := ((X / 16) % 4)) (b := 2) (by omega) (by omega)).mp c_24
                        refine lv_iconst (v := nI 1) hx hb dL_act_630 (by decide) ?_
                        refine lv_iload_n hx hb dL_act_631 rfl (lv_at hl 4 rfl) ?_
                        refine lv_iconst (v := nI 4) hx hb dL_act_632 (by decide) ?_
                        refine lv_idiv hx hb dL_act_633 (by decide) ?_
                        refine lv_eqi (pk_div (by omega) (by omega) (by omega)) ?_
                        refine lv_bipush (v := nI 50) hx hb dL_act_634 (by decide) ?_
                        refine lv_irem hx hb dL_act_636 (by decide) ?_
                        refine lv_eqi (pk_rem (by omega) (by omega) (by omega)) ?_
                        refine lv_iadd hx hb dL_act_637 ?_
                        refine lv_eqi (nI_add _ _) ?_
                        refine lv_goto (tgt := 649) hx hb dL_act_638 (by decide) ?_
                        refine lv_eqi (y := nI q) (congrArg nI (by rw [hq]; split <;> (try split) <;> omega)) ?_
                        refine lv_istore (lv' := [(8, .int (nI q)), (7, .int (nI ((X / 16) % 4))), (6, .int (nI 1)), (5, .int (nI (((X / 16) / 12) % 6))), (4, .int (nI ((X / 16) % 12))), (3, .int (nI (X / 16))), (2, .int (nI (X % 16))), (0, .ref B.1.1), (1, .int (nI X))]) hx hb dL_act_649 hl (by decide) rfl (fun ls hl => ?_)
                        refine lv_aload_n hx hb dL_act_651 rfl (lv_at hl 7 rfl) ?_
                        refine lv_iload hx hb dL_act_652 (lv_at hl 1 rfl) ?_
                        refine h_op (st := []) C hS hP hD hl.1 (k_count h0 (q := X / 16 % 4) (by omega)) (goodIn_ls [] gL_act_X4_count act_l) rfl hd_count ⟨Nat.le_of_ble_eq_true rfl, Nat.le_of_ble_eq_true rfl⟩ rfl rfl (Nat.le_of_ble_eq_true rfl) dL_act_654 ⟨Nat.le_of_ble_eq_true rfl, Nat.le_of_ble_eq_true rfl⟩ (fun H locs hP hD hS => ?_)
                        refine lv_eqi (y := s_se v.1 (X / 16 % 4)) (cnt_se (by omega)) ?_
                        refine lv_istore (lv' := [(9, .int (s_se v.1 (X / 16 % 4))), (8, .int (nI q)), (7, .int (nI ((X / 16) % 4))), (6, .int (nI 1)), (5, .int (nI (((X / 16) / 12) % 6))), (4, .int (nI ((X / 16) % 12))), (3, .int (nI (X / 16))), (2, .int (nI (X % 16))), (0, .ref B.1.1), (1, .int (nI X))]) hx hb dL_act_657 hl (by decide) rfl (fun ls hl => ?_)
                        refine lv_aload_n hx hb dL_act_659 rfl (lv_at hl 8 rfl) ?_
                        refine lv_iload hx hb dL_act_660 (lv_at hl 2 rfl) ?_
                        refine lv_iload hx hb dL_act_662 (lv_at hl 1 rfl) ?_
                        refine h_op (st := []) C hS hP hD hl.1 (hk) (goodIn_ls [] gL_act_X4_set act_l) rfl hd_set ⟨Nat.le_of_ble_eq_true rfl, Nat.le_of_ble_eq_true rfl⟩ rfl rfl (Nat.le_of_ble_eq_true rfl) dL_act_664 ⟨Nat.le_of_ble_eq_true rfl, Nat.le_of_ble_eq_true rfl⟩ (fun H locs hP hD hS => ?_)
                        refine lv_iload hx hb dL_act_667 (lv_at hl 0 rfl) ?_
                        refine lv_icmp_ne (tgt := 687) hx hb dL_act_669 (by decide) (fun c_27 => ?_) (fun c_27 => ?_)
                        · skip
                          exact absurd rfl c_27
                        · skip
                          refine lv_aload_n hx hb dL_act_672 rfl (lv_at hl 8 rfl) ?_
                          refine lv_iload hx hb dL_act_673 (lv_at hl 2 rfl) ?_
                          refine h_op (st := []) C hS hP hD hl.1 (k_count h01 (q := X / 16 % 4) (by omega)) (goodIn_ls [] gL_act_X4_count act_l) rfl hd_count ⟨Nat.le_of_ble_eq_true rfl, Nat.le_of_ble_eq_true rfl⟩ rfl rfl (Nat.le_of_ble_eq_true rfl) dL_act_675 ⟨Nat.le_of_ble_eq_true rfl, Nat.le_of_ble_eq_true rfl⟩ (fun H locs hP hD hS => ?_)
                          refine lv_eqi (y := nI q) ((cnt_se (by omega)).trans (by rw [hv1]; exact upd_at _ _ _)) ?_
                          refine lv_iload hx hb dL_act_678 (lv_at hl 1 rfl) ?_
                          refine lv_icmp_ne (tgt := 687) hx hb dL_act_680 (by decide) (fun c_28 => ?_) (fun c_28 => ?_)
                          · skip
                            exact absurd ((nI_eq (a := q) (b := q) (by omega) (by omega)).mpr (by omega)) c_28
                          · skip
                            refine lv_iconst (v := nI 1) hx hb dL_act_683 (by decide) ?_
                            refine lv_goto (tgt := 689) hx hb dL_act_684 (by decide) ?_
                            exact hret _ _ _ _ hP hS dL_act_689
                    · skip
                      have nc_23 : ¬ 2 ≤ ((X / 16) % 4) := fun q => c_23 ((nI_leI (a := 2) (b := ((X / 16) % 4)) (by omega) (by omega)).mpr q)
                      refine lv_iload_n hx hb dL_act_615 rfl (lv_at hl 4 rfl) ?_
                      refine lv_iconst (v := nI 4) hx hb dL_act_616 (by decide) ?_
                      refine lv_idiv hx hb dL_act_617 (by decide) ?_
                      refine lv_eqi (pk_div (by omega) (by omega) (by omega)) ?_
                      refine lv_bipush (v := nI 21) hx hb dL_act_618 (by decide) ?_
                      refine lv_irem hx hb dL_act_620 (by decide) ?_
                      refine lv_eqi (pk_rem (by omega) (by omega) (by omega)) ?_
                      refine lv_goto (tgt := 649) hx hb dL_act_621 (by decide) ?_
                      refine lv_eqi (y := nI q) (congrArg nI (by rw [hq]; split <;> (try split) <;> omega)) ?_
                      refine lv_istore (lv' := [(8, .int (nI q)), (7, .int (nI ((X / 16) % 4))), (6, .int (nI 1)), (5, .int (nI (((X / 16) / 12) % 6))), (4, .int (nI ((X / 16) % 12))), (3, .int (nI (X / 16))), (2, .int (nI (X % 16))), (0, .ref B.1.1), (1, .int (nI X))]) hx hb dL_act_649 hl (by decide) rfl (fun ls hl => ?_)
                      refine lv_aload_n hx hb dL_act_651 rfl (lv_at hl 7 rfl) ?_
                      refine lv_iload hx hb dL_act_652 (lv_at hl 1 rfl) ?_
                      refine h_op (st := []) C hS hP hD hl.1 (k_count h0 (q := X / 16 % 4) (by omega)) (goodIn_ls [] gL_act_X4_count act_l) rfl hd_count ⟨Nat.le_of_ble_eq_true rfl, Nat.le_of_ble_eq_true rfl⟩ rfl rfl (Nat.le_of_ble_eq_true rfl) dL_act_654 ⟨Nat.le_of_ble_eq_true rfl, Nat.le_of_ble_eq_true rfl⟩ (fun H locs hP hD hS => ?_)
                      refine lv_eqi (y := s_se v.1 (X / 16 % 4)) (cnt_se (by omega)) ?_
                      refine lv_istore (lv' := [(9, .int (s_se v.1 (X / 16 % 4))), (8, .int (nI q)), (7, .int (nI ((X / 16) % 4))), (6, .int (nI 1)), (5, .int (nI (((X / 16) / 12) % 6))), (4, .int (nI ((X / 16) % 12))), (3, .int (nI (X / 16))), (2, .int (nI (X % 16))), (0, .ref B.1.1), (1, .int (nI X))]) hx hb dL_act_657 hl (by decide) rfl (fun ls hl => ?_)
                      refine lv_aload_n hx hb dL_act_659 rfl (lv_at hl 8 rfl) ?_
                      refine lv_iload hx hb dL_act_660 (lv_at hl 2 rfl) ?_
                      refine lv_iload hx hb dL_act_662 (lv_at hl 1 rfl) ?_
                      refine h_op (st := []) C hS hP hD hl.1 (hk) (goodIn_ls [] gL_act_X4_set act_l) rfl hd_set ⟨Nat.le_of_ble_eq_true rfl, Nat.le_of_ble_eq_true rfl⟩ rfl rfl (Nat.le_of_ble_eq_true rfl) dL_act_664 ⟨Nat.le_of_ble_eq_true rfl, Nat.le_of_ble_eq_true rfl⟩ (fun H locs hP hD hS => ?_)
                      refine lv_iload hx hb dL_act_667 (lv_at hl 0 rfl) ?_
                      refine lv_icmp_ne (tgt := 687) hx hb dL_act_669 (by decide) (fun c_29 => ?_) (fun c_29 => ?_)
                      · skip
                        exact absurd rfl c_29
                      · skip
                        refine lv_aload_n hx hb dL_act_672 rfl (lv_at hl 8 rfl) ?_
                        refine lv_iload hx hb dL_act_673 (lv_at hl 2 rfl) ?_
                        refine h_op (st := []) C hS hP hD hl.1 (k_count h01 (q := X / 16 % 4) (by omega)) (goodIn_ls [] gL_act_X4_count act_l) rfl hd_count ⟨Nat.le_of_ble_eq_true rfl, Nat.le_of_ble_eq_true rfl⟩ rfl rfl (Nat.le_of_ble_eq_true rfl) dL_act_675 ⟨Nat.le_of_ble_eq_true rfl, Nat.le_of_ble_eq_true rfl⟩ (fun H locs hP hD hS => ?_)
                        refine lv_eqi (y := nI q) ((cnt_se (by omega)).trans (by rw [hv1]; exact upd_at _ _ _)) ?_
                        refine lv_iload hx hb dL_act_678 (lv_at hl 1 rfl) ?_
                        refine lv_icmp_ne (tgt := 687) hx hb dL_act_680 (by decide) (fun c_30 => ?_) (fun c_30 => ?_)
                        · skip
                          exact absurd ((nI_eq (a := q) (b := q) (by omega) (by omega)).mpr (by omega)) c_30
                        · skip
                          refine lv_iconst (v := nI 1) hx hb dL_act_683 (by decide) ?_
                          refine lv_goto (tgt := 689) hx hb dL_act_684 (by decide) ?_
                          exact hret _ _ _ _ hP hS dL_act_689
                  · skip
                    exact absurd ((nI_eq (a := (X % 16)) (b := 14) (by omega) (by omega)).mp c_22) (by omega)
                · skip
                  exact absurd ((nI_eq (a := (X % 16)) (b := 13) (by omega) (by omega)).mp c_21) (by omega)
              · skip
                exact absurd ((nI_eq (a := (X % 16)) (b := 12) (by omega) (by omega)).mp c_20) (by omega)
            · skip
              exact absurd ((nI_eq (a := (X % 16)) (b := 11) (by omega) (by omega)).mp c_19) (by omega)
          · skip
            exact absurd ((nI_eq (a := (X % 16)) (b := 10) (by omega) (by omega)).mp c_18) (by omega)
    · skip
      exact absurd (nI_le (a := 10) (b := (X % 16)) (by omega) (by omega)) c_2
  · skip
    exact absurd (nI_le (a := 7) (b := (X % 16)) (by omega) (by omega)) c_1
/-- what a change comes to: nothing, or one state more -/
theorem c_L_act (l : Launch) (G : va_G) (ca : Nat → ClassId) (tL tM : Nat) (B : AD) (v : VV) (n : Nat) (hs : Nat → SS) (u : Nat → Option SS) (N : NN) (bd : Nat) (hbd : bd ≤ 100) (hR : Ab B v n hs u) (h : Rn v.1 N) (b : Bd bd N) (X : Nat) (hX : X < 2 ^ 31) : CtS l yL_act wsK_act rmB [.ref B.1.1, .int (nI X)] G ca tL tM (XV ca B v) (XV ca B v) (nI 0) ∨ ∃ v1 : VV, Gd (bd + 1) v1.1 ∧ Ab B v1 (recN n) (consS v.1 hs) u ∧ CtS l yL_act wsK_act rmB [.ref B.1.1, .int (nI X)] G ca tL tM (XV ca B v) (XV ca B v1) (nI 1) := by
  rcases (show X % 16 < 7 ∨ (X % 16 < 10 ∧ 7 ≤ X % 16) ∨ X % 16 = 10 ∨ X % 16 = 11 ∨ X % 16 = 12 ∨ X % 16 = 13 ∨ X % 16 = 14 ∨ X % 16 = 15 by omega) with c | c | c | c | c | c | c | c
  · exact Or.inr (c_L_act_pass l G ca tL tM B v n hs u N bd hbd hR h b X hX c)
  · exact Or.inr (c_L_act_walk l G ca tL tM B v n hs u N bd hbd hR h b X hX c)
  · exact Or.inr (c_L_act_brim l G ca tL tM B v n hs u N bd hbd hR h b X hX c)
  · by_cases hd : bt1 (s_dk v.1) (X / 16 % 12) = 0
    · exact Or.inr (c_L_act_drain1 l G ca tL tM B v n hs u N bd hbd hR h b X hX c hd)
    · exact Or.inl (c_L_act_drain0 l G ca tL tM B v n hs u N bd hbd hR h b X hX c hd)
  · exact Or.inr (c_L_act_shoes l G ca tL tM B v n hs u N bd hbd hR h b X hX c)
  · by_cases hd : bt1 (s_dk v.1) (X / 16 % 12) = 0
    · exact Or.inr (c_L_act_permit1 l G ca tL tM B v n hs u N bd hbd hR h b X hX c hd)
    · exact Or.inl (c_L_act_permit0 l G ca tL tM B v n hs u N bd hbd hR h b X hX c hd)
  · exact Or.inr (c_L_act_pay l G ca tL tM B v n hs u N bd hbd hR h b X hX c)
  · exact Or.inr (c_L_act_set l G ca tL tM B v n hs u N bd hbd hR h b X hX c)
