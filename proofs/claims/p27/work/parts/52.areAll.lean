/-! the law's helper areAll -/
theorem nI_n6 {d : Nat} (h : d < 2 ^ 31) : ¬ nI d = (-6) := fun q => nI_pos h (by rw [q]; decide)
set_option maxHeartbeats 4000000 in
set_option maxRecDepth 100000 in
theorem c_L_areAll (l : Launch) (G : va_G) (ca : Nat → ClassId) (tL tM : Nat) (B : AD) (v : VV) (N : NN) (bd n12 n6 : Nat) (h12 : n12 = 12) (h6 : n6 = 6) (hbd : bd ≤ 100) (h0 : v.2.2.1 = 0) (h : Rn v.1 N) (b : Bd bd N) : CtS l yL_areAll wsL_areAll rmA [.ref B.1.1] G ca tL tM (XV ca B v) (XV ca B v) (nI 1) := by
  refine CtS.ofW (cc := cL_areAll) (maxL := 18) (rt := .boolean) (by decide) rfl (Nat.le_of_ble_eq_true rfl) rfl ?_
  intro pr en s m be me c A ls Q H hx hb hml hts hown hev hP hD hA hS hl hX hret
  have C : HC pr s m c cL_areAll ([.ref B.1.1] : List Value).toArray wsL_areAll 18 G ca tL tM A := ⟨hx, hb, hml, hown, hts, hev, hX, hA⟩
  have hown : s.vm.findClass RL = some m.cls := hown
  have hl : lv_has ls 18 [(0, .ref B.1.1)] := hl
  refine lv_iconst (v := nI 0) hx hb dL_areAll_0 (by decide) ?_
  refine lv_istore_n (lv' := [(1, .int (nI 0)), (0, .ref B.1.1)]) hx hb dL_areAll_1 rfl hl (by decide) rfl (fun ls hl => ?_)
  refine lv_iconst (v := nI 0) hx hb dL_areAll_2 (by decide) ?_
  refine lv_istore_n (lv' := [(2, .int (nI 0)), (1, .int (nI 0)), (0, .ref B.1.1)]) hx hb dL_areAll_3 rfl hl (by decide) rfl (fun ls hl => ?_)
  refine lv_iconst (v := nI 0) hx hb dL_areAll_4 (by decide) ?_
  refine lv_istore_n (lv' := [(3, .int (nI 0)), (2, .int (nI 0)), (1, .int (nI 0)), (0, .ref B.1.1)]) hx hb dL_areAll_5 rfl hl (by decide) rfl (fun ls hl => ?_)
  refine lv_iconst (v := nI 0) hx hb dL_areAll_6 (by decide) ?_
  refine lv_istore (lv' := [(4, .int (nI 0)), (3, .int (nI 0)), (2, .int (nI 0)), (1, .int (nI 0)), (0, .ref B.1.1)]) hx hb dL_areAll_7 hl (by decide) rfl (fun ls hl => ?_)
  refine lv_iconst (v := nI 0) hx hb dL_areAll_9 (by decide) ?_
  refine lv_istore (lv' := [(5, .int (nI 0)), (4, .int (nI 0)), (3, .int (nI 0)), (2, .int (nI 0)), (1, .int (nI 0)), (0, .ref B.1.1)]) hx hb dL_areAll_10 hl (by decide) rfl (fun ls hl => ?_)
  refine lv_iconst (v := nI 1) hx hb dL_areAll_12 (by decide) ?_
  refine lv_istore (lv' := [(6, .int (nI 1)), (5, .int (nI 0)), (4, .int (nI 0)), (3, .int (nI 0)), (2, .int (nI 0)), (1, .int (nI 0)), (0, .ref B.1.1)]) hx hb dL_areAll_13 hl (by decide) rfl (fun ls hl => ?_)
  refine lv_iconst (v := nI 0) hx hb dL_areAll_15 (by decide) ?_
  refine lv_istore (lv' := [(7, .int (nI 0)), (6, .int (nI 1)), (5, .int (nI 0)), (4, .int (nI 0)), (3, .int (nI 0)), (2, .int (nI 0)), (1, .int (nI 0)), (0, .ref B.1.1)]) hx hb dL_areAll_16 hl (by decide) rfl (fun ls hl => ?_)
  have loop_18 : ∀ (n p : Nat), p + n = n12 → ∀ (H : Heap) (locs : List Loc) (ls : Array Slot), va_P G vwCl (XV ca B v) H → va_D A (XV ca B v) → va_S A s.heap H locs → lv_has ls 18 [(0, .ref B.1.1), (1, .int (nI (snN (n_wa N) p))), (2, .int (nI (n_fz N % 2 ^ p))), (3, .int (nI (n_dk N % 2 ^ p))), (4, .int (smD (s_cr v.1) p)), (5, .int (nI (snN (fun p => popN (hldN N p) 12) p))), (6, .int (nI 1)), (7, .int (nI p))] → W pr l en (rmA : Room) s m ([.ref B.1.1] : List Value).toArray be me c H locs 0 0 Q (F0 m 18 ls []) := by
    intro n
    induction n with
    | zero =>
      intro p hi H locs ls hP hD hS hl
      obtain rfl : n12 = p := by omega
      refine lv_iload hx hb dL_areAll_18 (lv_at hl 7 rfl) ?_
      refine lv_bipush (v := nI 12) hx hb dL_areAll_20 (by decide) ?_
      refine lv_icmp_ge (tgt := 273) hx hb dL_areAll_22 (by decide) (fun c_1 => ?_) (fun c_1 => ?_)
      · skip
        have e1 : n_fz N % 2 ^ n12 = n_fz N := by rw [h12]; exact Nat.mod_eq_of_lt b.fz
        have e2 : n_dk N % 2 ^ n12 = n_dk N := by rw [h12]; exact Nat.mod_eq_of_lt b.dk
        rw [e1, e2] at hl
        refine lv_iconst (v := nI 0) hx hb dL_areAll_273 (by decide) ?_
        refine lv_istore (lv' := [(7, .int (nI 0)), (0, .ref B.1.1), (1, .int (nI (snN (n_wa N) n12))), (2, .int (nI (n_fz N))), (3, .int (nI (n_dk N))), (4, .int (smD (s_cr v.1) n12)), (5, .int (nI (snN (fun p => popN (hldN N p) 12) n12))), (6, .int (nI 1))]) hx hb dL_areAll_274 hl (by decide) rfl (fun ls hl => ?_)
        refine lv_iconst (v := nI 0) hx hb dL_areAll_276 (by decide) ?_
        refine lv_istore (lv' := [(8, .int (nI 0)), (7, .int (nI 0)), (0, .ref B.1.1), (1, .int (nI (snN (n_wa N) n12))), (2, .int (nI (n_fz N))), (3, .int (nI (n_dk N))), (4, .int (smD (s_cr v.1) n12)), (5, .int (nI (snN (fun p => popN (hldN N p) 12) n12))), (6, .int (nI 1))]) hx hb dL_areAll_277 hl (by decide) rfl (fun ls hl => ?_)
        refine lv_iconst (v := nI 0) hx hb dL_areAll_279 (by decide) ?_
        refine lv_istore (lv' := [(9, .int (nI 0)), (8, .int (nI 0)), (7, .int (nI 0)), (0, .ref B.1.1), (1, .int (nI (snN (n_wa N) n12))), (2, .int (nI (n_fz N))), (3, .int (nI (n_dk N))), (4, .int (smD (s_cr v.1) n12)), (5, .int (nI (snN (fun p => popN (hldN N p) 12) n12))), (6, .int (nI 1))]) hx hb dL_areAll_280 hl (by decide) rfl (fun ls hl => ?_)
        refine lv_iconst (v := nI 0) hx hb dL_areAll_282 (by decide) ?_
        refine lv_istore (lv' := [(10, .int (nI 0)), (9, .int (nI 0)), (8, .int (nI 0)), (7, .int (nI 0)), (0, .ref B.1.1), (1, .int (nI (snN (n_wa N) n12))), (2, .int (nI (n_fz N))), (3, .int (nI (n_dk N))), (4, .int (smD (s_cr v.1) n12)), (5, .int (nI (snN (fun p => popN (hldN N p) 12) n12))), (6, .int (nI 1))]) hx hb dL_areAll_283 hl (by decide) rfl (fun ls hl => ?_)
        refine lv_iconst (v := nI 0) hx hb dL_areAll_285 (by decide) ?_
        refine lv_istore (lv' := [(11, .int (nI 0)), (10, .int (nI 0)), (9, .int (nI 0)), (8, .int (nI 0)), (7, .int (nI 0)), (0, .ref B.1.1), (1, .int (nI (snN (n_wa N) n12))), (2, .int (nI (n_fz N))), (3, .int (nI (n_dk N))), (4, .int (smD (s_cr v.1) n12)), (5, .int (nI (snN (fun p => popN (hldN N p) 12) n12))), (6, .int (nI 1))]) hx hb dL_areAll_286 hl (by decide) rfl (fun ls hl => ?_)
        have loop_288 : ∀ (n2 w : Nat), w + n2 = n6 → ∀ (H : Heap) (locs : List Loc) (ls : Array Slot), va_P G vwCl (XV ca B v) H → va_D A (XV ca B v) → va_S A s.heap H locs → lv_has ls 18 [(0, .ref B.1.1), (1, .int (nI (snN (n_wa N) n12))), (2, .int (nI (n_fz N))), (3, .int (nI (n_dk N))), (4, .int (smD (s_cr v.1) n12)), (5, .int (nI (snN (fun p => popN (hldN N p) 12) n12))), (6, .int (nI 1)), (7, .int (nI (snN (n_ow N) w))), (8, .int (smD (s_pa v.1) w)), (9, .int (smD (s_cb v.1) w)), (10, .int (nI (snN (fun w => popN (perN N w) 12) w))), (11, .int (nI w))] → W pr l en (rmA : Room) s m ([.ref B.1.1] : List Value).toArray be me c H locs 0 0 Q (F0 m 288 ls []) := by
          intro n2
          induction n2 with
          | zero =>
            intro w hi H locs ls hP hD hS hl
            obtain rfl : n6 = w := by omega
            refine lv_iload hx hb dL_areAll_288 (lv_at hl 11 rfl) ?_
            refine lv_bipush (v := nI 6) hx hb dL_areAll_290 (by decide) ?_
            refine lv_icmp_ge (tgt := 796) hx hb dL_areAll_292 (by decide) (fun c_2 => ?_) (fun c_2 => ?_)
            · skip
              have e12 : snN (n_wa N) n12 = snN (n_wa N) 12 := by rw [h12]
              have hw7 : snN (n_wa N) 12 ≤ 60 * 12 := snN_le 12 (fun k hk => by have := b.wb k hk; omega)
              have hfe : s_fe v.1 = nI (snN (n_wa N) n12) + s_dr v.1 + s_dn v.1 := by rw [e12, ← e_c5 h]; exact h.fe
              have hbf := b.fz
              have hbk := b.dk
              have hpm : snN (fun p => popN (hldN N p) 12) n12 = pmN N := by rw [h12]; exact pm_two N
              have hpm2 : snN (fun w => popN (perN N w) 12) n6 = pmN N := by rw [h6]; rfl
              have hpb : pmN N ≤ 12 * 6 := snN_le 6 (fun w _ => popN_le _ 12)
              have e6 : snN (n_ow N) n6 = snN (n_ow N) 6 := by rw [h6]
              have ho6 : snN (n_ow N) 6 ≤ 2880 * bd * 6 := snN_le 6 (fun w hw => b.ow w hw)
              refine lv_iload hx hb dL_areAll_796 (lv_at hl 6 rfl) ?_
              refine lv_if_eq (tgt := 905) hx hb dL_areAll_798 (by decide) (fun c_3 => ?_) (fun c_3 => ?_)
              · skip
                exact absurd c_3 (by decide)
              · skip
                refine lv_iload_n hx hb dL_areAll_801 rfl (lv_at hl 1 rfl) ?_
                refine lv_aload_n hx hb dL_areAll_802 rfl (lv_at hl 0 rfl) ?_
                refine lv_iconst (v := nI 5) hx hb dL_areAll_803 (by decide) ?_
                refine h_op (st := [.int (nI (snN (n_wa N) n12))]) C hS hP hD hl.1 (k_count h0 (q := 5) (by decide)) gL_areAll_X4_count rfl hd_count ⟨Nat.le_of_ble_eq_true rfl, Nat.le_of_ble_eq_true rfl⟩ rfl rfl (Nat.le_of_ble_eq_true rfl) dL_areAll_804 ⟨Nat.le_of_ble_eq_true rfl, Nat.le_of_ble_eq_true rfl⟩ (fun H locs hP hD hS => ?_)
                refine lv_eqi (y := nI (snN (n_wa N) 12)) (e_c5 h) ?_
                refine lv_icmp_ne (tgt := 905) hx hb dL_areAll_807 (by decide) (fun c_4 => ?_) (fun c_4 => ?_)
                · skip
                  exact absurd ((nI_eq (a := (snN (n_wa N) n12)) (b := (snN (n_wa N) 12)) (by omega) (by omega)).mpr (by omega)) c_4
                · skip
                  refine lv_aload_n hx hb dL_areAll_810 rfl (lv_at hl 0 rfl) ?_
                  refine lv_bipush (v := nI 6) hx hb dL_areAll_811 (by decide) ?_
                  refine h_op (st := []) C hS hP hD hl.1 (k_count h0 (q := 6) (by decide)) gL_areAll_X4_count rfl hd_count ⟨Nat.le_of_ble_eq_true rfl, Nat.le_of_ble_eq_true rfl⟩ rfl rfl (Nat.le_of_ble_eq_true rfl) dL_areAll_813 ⟨Nat.le_of_ble_eq_true rfl, Nat.le_of_ble_eq_true rfl⟩ (fun H locs hP hD hS => ?_)
                  refine lv_eqi (y := s_fe v.1) (rfl) ?_
                  refine lv_iload_n hx hb dL_areAll_816 rfl (lv_at hl 1 rfl) ?_
                  refine lv_aload_n hx hb dL_areAll_817 rfl (lv_at hl 0 rfl) ?_
                  refine lv_bipush (v := nI 7) hx hb dL_areAll_818 (by decide) ?_
                  refine h_op (st := [.int (nI (snN (n_wa N) n12)), .int (s_fe v.1)]) C hS hP hD hl.1 (k_count h0 (q := 7) (by decide)) gL_areAll_X4_count rfl hd_count ⟨Nat.le_of_ble_eq_true rfl, Nat.le_of_ble_eq_true rfl⟩ rfl rfl (Nat.le_of_ble_eq_true rfl) dL_areAll_820 ⟨Nat.le_of_ble_eq_true rfl, Nat.le_of_ble_eq_true rfl⟩ (fun H locs hP hD hS => ?_)
                  refine lv_eqi (y := s_dr v.1) (rfl) ?_
                  refine lv_iadd hx hb dL_areAll_823 ?_
                  refine lv_aload_n hx hb dL_areAll_824 rfl (lv_at hl 0 rfl) ?_
                  refine lv_bipush (v := nI 8) hx hb dL_areAll_825 (by decide) ?_
                  refine h_op (st := [.int ((nI (snN (n_wa N) n12)) + (s_dr v.1)), .int (s_fe v.1)]) C hS hP hD hl.1 (k_count h0 (q := 8) (by decide)) gL_areAll_X4_count rfl hd_count ⟨Nat.le_of_ble_eq_true rfl, Nat.le_of_ble_eq_true rfl⟩ rfl rfl (Nat.le_of_ble_eq_true rfl) dL_areAll_827 ⟨Nat.le_of_ble_eq_true rfl, Nat.le_of_ble_eq_true rfl⟩ (fun H locs hP hD hS => ?_)
                  refine lv_eqi (y := s_dn v.1) (rfl) ?_
                  refine lv_iadd hx hb dL_areAll_830 ?_
                  refine lv_icmp_ne (tgt := 905) hx hb dL_areAll_831 (by decide) (fun c_5 => ?_) (fun c_5 => ?_)
                  · skip
                    exact absurd hfe c_5
                  · skip
                    refine lv_iload_n hx hb dL_areAll_834 rfl (lv_at hl 2 rfl) ?_
                    refine lv_aload_n hx hb dL_areAll_835 rfl (lv_at hl 0 rfl) ?_
                    refine lv_bipush (v := nI 9) hx hb dL_areAll_836 (by decide) ?_
                    refine h_op (st := [.int (nI (n_fz N))]) C hS hP hD hl.1 (k_count h0 (q := 9) (by decide)) gL_areAll_X4_count rfl hd_count ⟨Nat.le_of_ble_eq_true rfl, Nat.le_of_ble_eq_true rfl⟩ rfl rfl (Nat.le_of_ble_eq_true rfl) dL_areAll_838 ⟨Nat.le_of_ble_eq_true rfl, Nat.le_of_ble_eq_true rfl⟩ (fun H locs hP hD hS => ?_)
                    refine lv_eqi (y := nI (n_fz N)) (h.fz) ?_
                    refine lv_icmp_ne (tgt := 905) hx hb dL_areAll_841 (by decide) (fun c_6 => ?_) (fun c_6 => ?_)
                    · skip
                      exact absurd ((nI_eq (a := (n_fz N)) (b := (n_fz N)) (by omega) (by omega)).mpr (by omega)) c_6
                    · skip
                      refine lv_iload_n hx hb dL_areAll_844 rfl (lv_at hl 3 rfl) ?_
                      refine lv_aload_n hx hb dL_areAll_845 rfl (lv_at hl 0 rfl) ?_
                      refine lv_bipush (v := nI 10) hx hb dL_areAll_846 (by decide) ?_
                      refine h_op (st := [.int (nI (n_dk N))]) C hS hP hD hl.1 (k_count h0 (q := 10) (by decide)) gL_areAll_X4_count rfl hd_count ⟨Nat.le_of_ble_eq_true rfl, Nat.le_of_ble_eq_true rfl⟩ rfl rfl (Nat.le_of_ble_eq_true rfl) dL_areAll_848 ⟨Nat.le_of_ble_eq_true rfl, Nat.le_of_ble_eq_true rfl⟩ (fun H locs hP hD hS => ?_)
                      refine lv_eqi (y := nI (n_dk N)) (h.dk) ?_
                      refine lv_icmp_ne (tgt := 905) hx hb dL_areAll_851 (by decide) (fun c_7 => ?_) (fun c_7 => ?_)
                      · skip
                        exact absurd ((nI_eq (a := (n_dk N)) (b := (n_dk N)) (by omega) (by omega)).mpr (by omega)) c_7
                      · skip
                        refine lv_iload hx hb dL_areAll_854 (lv_at hl 5 rfl) ?_
                        refine lv_aload_n hx hb dL_areAll_856 rfl (lv_at hl 0 rfl) ?_
                        refine lv_bipush (v := nI 11) hx hb dL_areAll_857 (by decide) ?_
                        refine h_op (st := [.int (nI (snN (fun p => popN (hldN N p) 12) n12))]) C hS hP hD hl.1 (k_count h0 (q := 11) (by decide)) gL_areAll_X4_count rfl hd_count ⟨Nat.le_of_ble_eq_true rfl, Nat.le_of_ble_eq_true rfl⟩ rfl rfl (Nat.le_of_ble_eq_true rfl) dL_areAll_859 ⟨Nat.le_of_ble_eq_true rfl, Nat.le_of_ble_eq_true rfl⟩ (fun H locs hP hD hS => ?_)
                        refine lv_eqi (y := nI (pmN N)) (e_c11 h b) ?_
                        refine lv_icmp_ne (tgt := 905) hx hb dL_areAll_862 (by decide) (fun c_8 => ?_) (fun c_8 => ?_)
                        · skip
                          exact absurd ((nI_eq (a := (snN (fun p => popN (hldN N p) 12) n12)) (b := (pmN N)) (by omega) (by omega)).mpr (by omega)) c_8
                        · skip
                          refine lv_iload hx hb dL_areAll_865 (lv_at hl 10 rfl) ?_
                          refine lv_iload hx hb dL_areAll_867 (lv_at hl 5 rfl) ?_
                          refine lv_icmp_ne (tgt := 905) hx hb dL_areAll_869 (by decide) (fun c_9 => ?_) (fun c_9 => ?_)
                          · skip
                            exact absurd ((nI_eq (a := (snN (fun w => popN (perN N w) 12) n6)) (b := (snN (fun p => popN (hldN N p) 12) n12)) (by omega) (by omega)).mpr (by omega)) c_9
                          · skip
                            refine lv_iload hx hb dL_areAll_872 (lv_at hl 7 rfl) ?_
                            refine lv_aload_n hx hb dL_areAll_874 rfl (lv_at hl 0 rfl) ?_
                            refine lv_bipush (v := nI 12) hx hb dL_areAll_875 (by decide) ?_
                            refine h_op (st := [.int (nI (snN (n_ow N) n6))]) C hS hP hD hl.1 (k_count h0 (q := 12) (by decide)) gL_areAll_X4_count rfl hd_count ⟨Nat.le_of_ble_eq_true rfl, Nat.le_of_ble_eq_true rfl⟩ rfl rfl (Nat.le_of_ble_eq_true rfl) dL_areAll_877 ⟨Nat.le_of_ble_eq_true rfl, Nat.le_of_ble_eq_true rfl⟩ (fun H locs hP hD hS => ?_)
                            refine lv_eqi (y := nI (snN (n_ow N) 6)) (e_c12 h) ?_
                            refine lv_icmp_ne (tgt := 905) hx hb dL_areAll_880 (by decide) (fun c_10 => ?_) (fun c_10 => ?_)
                            · skip
                              exact absurd ((nI_eq (a := (snN (n_ow N) n6)) (b := (snN (n_ow N) 6)) (by omega) (by omega)).mpr (by omega)) c_10
                            · skip
                              refine lv_iload hx hb dL_areAll_883 (lv_at hl 8 rfl) ?_
                              refine lv_aload_n hx hb dL_areAll_885 rfl (lv_at hl 0 rfl) ?_
                              refine lv_bipush (v := nI 13) hx hb dL_areAll_886 (by decide) ?_
                              refine h_op (st := [.int (smD (s_pa v.1) n6)]) C hS hP hD hl.1 (k_count h0 (q := 13) (by decide)) gL_areAll_X4_count rfl hd_count ⟨Nat.le_of_ble_eq_true rfl, Nat.le_of_ble_eq_true rfl⟩ rfl rfl (Nat.le_of_ble_eq_true rfl) dL_areAll_888 ⟨Nat.le_of_ble_eq_true rfl, Nat.le_of_ble_eq_true rfl⟩ (fun H locs hP hD hS => ?_)
                              refine lv_eqi (y := smD (s_pa v.1) 6) (rfl) ?_
                              refine lv_icmp_ne (tgt := 905) hx hb dL_areAll_891 (by decide) (fun c_11 => ?_) (fun c_11 => ?_)
                              · skip
                                exact absurd (by rw [h6]) c_11
                              · skip
                                refine lv_iload hx hb dL_areAll_894 (lv_at hl 9 rfl) ?_
                                refine lv_iload hx hb dL_areAll_896 (lv_at hl 4 rfl) ?_
                                refine lv_icmp_ne (tgt := 905) hx hb dL_areAll_898 (by decide) (fun c_12 => ?_) (fun c_12 => ?_)
                                · skip
                                  exact absurd (by rw [h6, h12]; exact h.cc) c_12
                                · skip
                                  refine lv_iconst (v := nI 1) hx hb dL_areAll_901 (by decide) ?_
                                  refine lv_goto (tgt := 906) hx hb dL_areAll_902 (by decide) ?_
                                  exact hret _ _ _ _ hP hS dL_areAll_906
            · skip
              exact absurd (nI_le (a := 6) (b := n6) (by omega) (by omega)) c_2
          | succ n2 ih =>
            intro w hi H locs ls hP hD hS hl
            have hlt : w < n6 := by omega
            refine lv_iload hx hb dL_areAll_288 (lv_at hl 11 rfl) ?_
            refine lv_bipush (v := nI 6) hx hb dL_areAll_290 (by decide) ?_
            refine lv_icmp_ge (tgt := 796) hx hb dL_areAll_292 (by decide) (fun c_13 => ?_) (fun c_13 => ?_)
            · skip
              exact absurd c_13 (nI_ge (a := w) (b := 6) (by omega) (by omega))
            · skip
              refine lv_iload hx hb dL_areAll_295 (lv_at hl 6 rfl) ?_
              refine lv_if_eq (tgt := 796) hx hb dL_areAll_297 (by decide) (fun c_14 => ?_) (fun c_14 => ?_)
              · skip
                exact absurd c_14 (by decide)
              · skip
                have hs := b.sh w (by omega)
                have ho := b.ow w (by omega)
                have hm1 : mayN N w < 4096 := mkN_lt12 _ (Nat.le_refl _)
                have hp1 : perN N w < 4096 := mkN_lt12 _ (Nat.le_refl _)
                refine lv_aload_n hx hb dL_areAll_300 rfl (lv_at hl 0 rfl) ?_
                refine lv_iload hx hb dL_areAll_301 (lv_at hl 11 rfl) ?_
                refine lv_iconst (v := nI 5) hx hb dL_areAll_303 (by decide) ?_
                refine h_op (st := []) C hS hP hD hl.1 (k_walker (w := w) (by omega) (q := 5) (by decide)) gL_areAll_X4_walker rfl hd_walker ⟨Nat.le_of_ble_eq_true rfl, Nat.le_of_ble_eq_true rfl⟩ rfl rfl (Nat.le_of_ble_eq_true rfl) dL_areAll_304 ⟨Nat.le_of_ble_eq_true rfl, Nat.le_of_ble_eq_true rfl⟩ (fun H locs hP hD hS => ?_)
                refine lv_eqi (y := nI (mayN N w)) (e_w5 h b (w := w) (by omega)) ?_
                refine lv_istore (lv' := [(12, .int (nI (mayN N w))), (0, .ref B.1.1), (1, .int (nI (snN (n_wa N) n12))), (2, .int (nI (n_fz N))), (3, .int (nI (n_dk N))), (4, .int (smD (s_cr v.1) n12)), (5, .int (nI (snN (fun p => popN (hldN N p) 12) n12))), (6, .int (nI 1)), (7, .int (nI (snN (n_ow N) w))), (8, .int (smD (s_pa v.1) w)), (9, .int (smD (s_cb v.1) w)), (10, .int (nI (snN (fun w => popN (perN N w) 12) w))), (11, .int (nI w))]) hx hb dL_areAll_307 hl (by decide) rfl (fun ls hl => ?_)
                refine lv_aload_n hx hb dL_areAll_309 rfl (lv_at hl 1 rfl) ?_
                refine lv_iload hx hb dL_areAll_310 (lv_at hl 12 rfl) ?_
                refine lv_iconst (v := nI 4) hx hb dL_areAll_312 (by decide) ?_
                refine h_op (st := []) C hS hP hD hl.1 (k_walker (w := w) (by omega) (q := 4) (by decide)) gL_areAll_X4_walker rfl hd_walker ⟨Nat.le_of_ble_eq_true rfl, Nat.le_of_ble_eq_true rfl⟩ rfl rfl (Nat.le_of_ble_eq_true rfl) dL_areAll_313 ⟨Nat.le_of_ble_eq_true rfl, Nat.le_of_ble_eq_true rfl⟩ (fun H locs hP hD hS => ?_)
                refine lv_eqi (y := nI (perN N w)) (e_w4 h b (w := w) (by omega)) ?_
                refine lv_istore (lv' := [(13, .int (nI (perN N w))), (12, .int (nI (mayN N w))), (0, .ref B.1.1), (1, .int (nI (snN (n_wa N) n12))), (2, .int (nI (n_fz N))), (3, .int (nI (n_dk N))), (4, .int (smD (s_cr v.1) n12)), (5, .int (nI (snN (fun p => popN (hldN N p) 12) n12))), (6, .int (nI 1)), (7, .int (nI (snN (n_ow N) w))), (8, .int (smD (s_pa v.1) w)), (9, .int (smD (s_cb v.1) w)), (10, .int (nI (snN (fun w => popN (perN N w) 12) w))), (11, .int (nI w))]) hx hb dL_areAll_316 hl (by decide) rfl (fun ls hl => ?_)
                refine lv_aload_n hx hb dL_areAll_318 rfl (lv_at hl 2 rfl) ?_
                refine lv_iload hx hb dL_areAll_319 (lv_at hl 13 rfl) ?_
                refine h_op (st := []) C hS hP hD hl.1 (k_leastShoes (w := w) (by omega)) gL_areAll_X4_leastShoes rfl hd_leastShoes ⟨Nat.le_of_ble_eq_true rfl, Nat.le_of_ble_eq_true rfl⟩ rfl rfl (Nat.le_of_ble_eq_true rfl) dL_areAll_321 ⟨Nat.le_of_ble_eq_true rfl, Nat.le_of_ble_eq_true rfl⟩ (fun H locs hP hD hS => ?_)
                refine lv_istore (lv' := [(14, .int (lsG (lsA v.1 w) 4 0)), (13, .int (nI (perN N w))), (12, .int (nI (mayN N w))), (0, .ref B.1.1), (1, .int (nI (snN (n_wa N) n12))), (2, .int (nI (n_fz N))), (3, .int (nI (n_dk N))), (4, .int (smD (s_cr v.1) n12)), (5, .int (nI (snN (fun p => popN (hldN N p) 12) n12))), (6, .int (nI 1)), (7, .int (nI (snN (n_ow N) w))), (8, .int (smD (s_pa v.1) w)), (9, .int (smD (s_cb v.1) w)), (10, .int (nI (snN (fun w => popN (perN N w) 12) w))), (11, .int (nI w))]) hx hb dL_areAll_324 hl (by decide) rfl (fun ls hl => ?_)
                refine lv_iload hx hb dL_areAll_326 (lv_at hl 10 rfl) ?_
                refine lv_aload_n hx hb dL_areAll_328 rfl (lv_at hl 3 rfl) ?_
                refine lv_iload hx hb dL_areAll_329 (lv_at hl 14 rfl) ?_
                refine lv_iconst (v := nI 1) hx hb dL_areAll_331 (by decide) ?_
                refine h_op (st := [.int (nI (snN (n_ow N) w))]) C hS hP hD hl.1 (k_walker (w := w) (by omega) (q := 1) (by decide)) gL_areAll_X4_walker rfl hd_walker ⟨Nat.le_of_ble_eq_true rfl, Nat.le_of_ble_eq_true rfl⟩ rfl rfl (Nat.le_of_ble_eq_true rfl) dL_areAll_332 ⟨Nat.le_of_ble_eq_true rfl, Nat.le_of_ble_eq_true rfl⟩ (fun H locs hP hD hS => ?_)
                refine lv_eqi (y := nI (n_ow N w)) (e_w1 h (w := w) (by omega)) ?_
                refine lv_iadd hx hb dL_areAll_335 ?_
                refine lv_eqi (nI_add _ _) ?_
                refine lv_istore (lv' := [(7, .int (nI ((snN (n_ow N) w) + (n_ow N w)))), (14, .int (lsG (lsA v.1 w) 4 0)), (13, .int (nI (perN N w))), (12, .int (nI (mayN N w))), (0, .ref B.1.1), (1, .int (nI (snN (n_wa N) n12))), (2, .int (nI (n_fz N))), (3, .int (nI (n_dk N))), (4, .int (smD (s_cr v.1) n12)), (5, .int (nI (snN (fun p => popN (hldN N p) 12) n12))), (6, .int (nI 1)), (8, .int (smD (s_pa v.1) w)), (9, .int (smD (s_cb v.1) w)), (10, .int (nI (snN (fun w => popN (perN N w) 12) w))), (11, .int (nI w))]) hx hb dL_areAll_336 hl (by decide) rfl (fun ls hl => ?_)
                refine lv_iload hx hb dL_areAll_338 (lv_at hl 11 rfl) ?_
                refine lv_aload_n hx hb dL_areAll_340 rfl (lv_at hl 4 rfl) ?_
                refine lv_iload hx hb dL_areAll_341 (lv_at hl 14 rfl) ?_
                refine lv_iconst (v := nI 2) hx hb dL_areAll_343 (by decide) ?_
                refine h_op (st := [.int (smD (s_pa v.1) w)]) C hS hP hD hl.1 (k_walker (w := w) (by omega) (q := 2) (by decide)) gL_areAll_X4_walker rfl hd_walker ⟨Nat.le_of_ble_eq_true rfl, Nat.le_of_ble_eq_true rfl⟩ rfl rfl (Nat.le_of_ble_eq_true rfl) dL_areAll_344 ⟨Nat.le_of_ble_eq_true rfl, Nat.le_of_ble_eq_true rfl⟩ (fun H locs hP hD hS => ?_)
                refine lv_eqi (y := s_pa v.1 w) (rfl) ?_
                refine lv_iadd hx hb dL_areAll_347 ?_
                refine lv_istore (lv' := [(8, .int ((smD (s_pa v.1) w) + (s_pa v.1 w))), (7, .int (nI ((snN (n_ow N) w) + (n_ow N w)))), (14, .int (lsG (lsA v.1 w) 4 0)), (13, .int (nI (perN N w))), (12, .int (nI (mayN N w))), (0, .ref B.1.1), (1, .int (nI (snN (n_wa N) n12))), (2, .int (nI (n_fz N))), (3, .int (nI (n_dk N))), (4, .int (smD (s_cr v.1) n12)), (5, .int (nI (snN (fun p => popN (hldN N p) 12) n12))), (6, .int (nI 1)), (9, .int (smD (s_cb v.1) w)), (10, .int (nI (snN (fun w => popN (perN N w) 12) w))), (11, .int (nI w))]) hx hb dL_areAll_348 hl (by decide) rfl (fun ls hl => ?_)
                refine lv_iload hx hb dL_areAll_350 (lv_at hl 12 rfl) ?_
                refine lv_aload_n hx hb dL_areAll_352 rfl (lv_at hl 5 rfl) ?_
                refine lv_iload hx hb dL_areAll_353 (lv_at hl 14 rfl) ?_
                refine lv_iconst (v := nI 3) hx hb dL_areAll_355 (by decide) ?_
                refine h_op (st := [.int (smD (s_cb v.1) w)]) C hS hP hD hl.1 (k_walker (w := w) (by omega) (q := 3) (by decide)) gL_areAll_X4_walker rfl hd_walker ⟨Nat.le_of_ble_eq_true rfl, Nat.le_of_ble_eq_true rfl⟩ rfl rfl (Nat.le_of_ble_eq_true rfl) dL_areAll_356 ⟨Nat.le_of_ble_eq_true rfl, Nat.le_of_ble_eq_true rfl⟩ (fun H locs hP hD hS => ?_)
                refine lv_eqi (y := s_cb v.1 w) (rfl) ?_
                refine lv_iadd hx hb dL_areAll_359 ?_
                refine lv_istore (lv' := [(9, .int ((smD (s_cb v.1) w) + (s_cb v.1 w))), (8, .int ((smD (s_pa v.1) w) + (s_pa v.1 w))), (7, .int (nI ((snN (n_ow N) w) + (n_ow N w)))), (14, .int (lsG (lsA v.1 w) 4 0)), (13, .int (nI (perN N w))), (12, .int (nI (mayN N w))), (0, .ref B.1.1), (1, .int (nI (snN (n_wa N) n12))), (2, .int (nI (n_fz N))), (3, .int (nI (n_dk N))), (4, .int (smD (s_cr v.1) n12)), (5, .int (nI (snN (fun p => popN (hldN N p) 12) n12))), (6, .int (nI 1)), (10, .int (nI (snN (fun w => popN (perN N w) 12) w))), (11, .int (nI w))]) hx hb dL_areAll_360 hl (by decide) rfl (fun ls hl => ?_)
                refine lv_iload hx hb dL_areAll_362 (lv_at hl 13 rfl) ?_
                refine lv_iload hx hb dL_areAll_364 (lv_at hl 4 rfl) ?_
                refine h_sz (st := [.int (nI (snN (fun w => popN (perN N w) 12) w))]) C hS hP hl.1 (c_L_size l G ca (m := (perN N w)) (mkN_lt12 _ (by omega))) gL_areAll_L_size rfl rfl rfl hd_L_size ⟨Nat.le_of_ble_eq_true rfl, Nat.le_of_ble_eq_true rfl⟩ rfl rfl (Nat.le_of_ble_eq_true rfl) dL_areAll_366 ⟨Nat.le_of_ble_eq_true rfl, Nat.le_of_ble_eq_true rfl⟩ (fun H locs hP hS => ?_)
                refine lv_iadd hx hb dL_areAll_369 ?_
                refine lv_eqi (nI_add _ _) ?_
                refine lv_istore (lv' := [(10, .int (nI ((snN (fun w => popN (perN N w) 12) w) + (popN (perN N w) 12)))), (9, .int ((smD (s_cb v.1) w) + (s_cb v.1 w))), (8, .int ((smD (s_pa v.1) w) + (s_pa v.1 w))), (7, .int (nI ((snN (n_ow N) w) + (n_ow N w)))), (14, .int (lsG (lsA v.1 w) 4 0)), (13, .int (nI (perN N w))), (12, .int (nI (mayN N w))), (0, .ref B.1.1), (1, .int (nI (snN (n_wa N) n12))), (2, .int (nI (n_fz N))), (3, .int (nI (n_dk N))), (4, .int (smD (s_cr v.1) n12)), (5, .int (nI (snN (fun p => popN (hldN N p) 12) n12))), (6, .int (nI 1)), (11, .int (nI w))]) hx hb dL_areAll_370 hl (by decide) rfl (fun ls hl => ?_)
                refine lv_aload_n hx hb dL_areAll_372 rfl (lv_at hl 7 rfl) ?_
                refine lv_iload hx hb dL_areAll_373 (lv_at hl 14 rfl) ?_
                refine lv_iconst (v := nI 0) hx hb dL_areAll_375 (by decide) ?_
                refine h_op (st := []) C hS hP hD hl.1 (k_walker (w := w) (by omega) (q := 0) (by decide)) gL_areAll_X4_walker rfl hd_walker ⟨Nat.le_of_ble_eq_true rfl, Nat.le_of_ble_eq_true rfl⟩ rfl rfl (Nat.le_of_ble_eq_true rfl) dL_areAll_376 ⟨Nat.le_of_ble_eq_true rfl, Nat.le_of_ble_eq_true rfl⟩ (fun H locs hP hD hS => ?_)
                refine lv_eqi (y := nI (n_sh N w)) (e_w0 h (w := w) (by omega)) ?_
                refine lv_if_lt (tgt := 507) hx hb dL_areAll_379 (by decide) (fun c_15 => ?_) (fun c_15 => ?_)
                · skip
                  exact absurd c_15 (nI_nlt (a := (n_sh N w)) (b := 0) (by omega) (by omega))
                · skip
                  refine lv_aload_n hx hb dL_areAll_382 rfl (lv_at hl 7 rfl) ?_
                  refine lv_iload hx hb dL_areAll_383 (lv_at hl 14 rfl) ?_
                  refine lv_iconst (v := nI 0) hx hb dL_areAll_385 (by decide) ?_
                  refine h_op (st := []) C hS hP hD hl.1 (k_walker (w := w) (by omega) (q := 0) (by decide)) gL_areAll_X4_walker rfl hd_walker ⟨Nat.le_of_ble_eq_true rfl, Nat.le_of_ble_eq_true rfl⟩ rfl rfl (Nat.le_of_ble_eq_true rfl) dL_areAll_386 ⟨Nat.le_of_ble_eq_true rfl, Nat.le_of_ble_eq_true rfl⟩ (fun H locs hP hD hS => ?_)
                  refine lv_eqi (y := nI (n_sh N w)) (e_w0 h (w := w) (by omega)) ?_
                  refine lv_iconst (v := nI 4) hx hb dL_areAll_389 (by decide) ?_
                  refine lv_icmp_ge (tgt := 507) hx hb dL_areAll_390 (by decide) (fun c_16 => ?_) (fun c_16 => ?_)
                  · skip
                    exact absurd c_16 (nI_ge (a := (n_sh N w)) (b := 4) (by omega) (by omega))
                  · skip
                    refine lv_aload_n hx hb dL_areAll_393 rfl (lv_at hl 7 rfl) ?_
                    refine lv_iload hx hb dL_areAll_394 (lv_at hl 14 rfl) ?_
                    refine lv_iconst (v := nI 1) hx hb dL_areAll_396 (by decide) ?_
                    refine h_op (st := []) C hS hP hD hl.1 (k_walker (w := w) (by omega) (q := 1) (by decide)) gL_areAll_X4_walker rfl hd_walker ⟨Nat.le_of_ble_eq_true rfl, Nat.le_of_ble_eq_true rfl⟩ rfl rfl (Nat.le_of_ble_eq_true rfl) dL_areAll_397 ⟨Nat.le_of_ble_eq_true rfl, Nat.le_of_ble_eq_true rfl⟩ (fun H locs hP hD hS => ?_)
                    refine lv_eqi (y := nI (n_ow N w)) (e_w1 h (w := w) (by omega)) ?_
                    refine lv_if_lt (tgt := 507) hx hb dL_areAll_400 (by decide) (fun c_17 => ?_) (fun c_17 => ?_)
                    · skip
                      exact absurd c_17 (nI_nlt (a := (n_ow N w)) (b := 0) (by omega) (by omega))
                    · skip
                      refine lv_iload hx hb dL_areAll_403 (lv_at hl 6 rfl) ?_
                      refine lv_if_lt (tgt := 507) hx hb dL_areAll_405 (by decide) (fun c_18 => ?_) (fun c_18 => ?_)
                      · skip
                        exact absurd c_18 (nI_nlt (a := (mayN N w)) (b := 0) (by omega) (by omega))
                      · skip
                        refine lv_iload hx hb dL_areAll_408 (lv_at hl 6 rfl) ?_
                        refine lv_sipush (v := nI 4096) hx hb dL_areAll_410 (by decide) ?_
                        refine lv_icmp_ge (tgt := 507) hx hb dL_areAll_413 (by decide) (fun c_19 => ?_) (fun c_19 => ?_)
                        · skip
                          exact absurd c_19 (nI_ge (a := (mayN N w)) (b := 4096) (by omega) (by omega))
                        · skip
                          refine lv_iload hx hb dL_areAll_416 (lv_at hl 6 rfl) ?_
                          refine lv_iload_n hx hb dL_areAll_418 rfl (lv_at hl 10 rfl) ?_
                          refine lv_iand hx hb dL_areAll_419 ?_
                          refine lv_eqi (y := nI 0) (by rw [and_N, may_dk]) ?_
                          refine lv_if_ne (tgt := 507) hx hb dL_areAll_420 (by decide) (fun c_20 => ?_) (fun c_20 => ?_)
                          · skip
                            exact absurd (by decide) c_20
                          · skip
                            refine lv_iload hx hb dL_areAll_423 (lv_at hl 5 rfl) ?_
                            refine lv_iload_n hx hb dL_areAll_425 rfl (lv_at hl 10 rfl) ?_
                            refine lv_iconst (v := (-1)) hx hb dL_areAll_426 (by decide) ?_
                            refine lv_ixor hx hb dL_areAll_427 ?_
                            refine lv_iand hx hb dL_areAll_428 ?_
                            refine lv_iload hx hb dL_areAll_429 (lv_at hl 6 rfl) ?_
                            refine lv_iconst (v := (-1)) hx hb dL_areAll_431 (by decide) ?_
                            refine lv_ixor hx hb dL_areAll_432 ?_
                            refine lv_iand hx hb dL_areAll_433 ?_
                            refine lv_eqi (y := nI 0) (by exact per_ok w) ?_
                            refine lv_if_ne (tgt := 507) hx hb dL_areAll_434 (by decide) (fun c_21 => ?_) (fun c_21 => ?_)
                            · skip
                              exact absurd (by decide) c_21
                            · skip
                              have jn_488 : ∀ (H : Heap) (locs : List Loc) (ls : Array Slot), va_P G vwCl (XV ca B v) H → va_D A (XV ca B v) → va_S A s.heap H locs → lv_has ls 18 [(10, .int (nI ((snN (fun w => popN (perN N w) 12) w) + (popN (perN N w) 12)))), (9, .int ((smD (s_cb v.1) w) + (s_cb v.1 w))), (8, .int ((smD (s_pa v.1) w) + (s_pa v.1 w))), (7, .int (nI ((snN (n_ow N) w) + (n_ow N w)))), (13, .int (nI (perN N w))), (12, .int (nI (mayN N w))), (0, .ref B.1.1), (1, .int (nI (snN (n_wa N) n12))), (2, .int (nI (n_fz N))), (3, .int (nI (n_dk N))), (4, .int (smD (s_cr v.1) n12)), (5, .int (nI (snN (fun p => popN (hldN N p) 12) n12))), (6, .int (nI 1)), (11, .int (nI w))] → W pr l en (rmA : Room) s m ([.ref B.1.1] : List Value).toArray be me c H locs 0 0 Q (F0 m 488 ls []) := by
                                intro H locs ls hP hD hS hl
                                obtain ⟨lw, hlw1, hlw2⟩ := e_lw h b (w := w) (by omega) h12
                                have hpl := popN_le (mayN N w) 12
                                refine lv_aload_n hx hb dL_areAll_488 rfl (lv_at hl 6 rfl) ?_
                                refine lv_iload hx hb dL_areAll_489 (lv_at hl 13 rfl) ?_
                                refine lv_iconst (v := nI 0) hx hb dL_areAll_491 (by decide) ?_
                                refine h_op (st := []) C hS hP hD hl.1 (k_longest (w := w) (by omega) h12) gL_areAll_X4_longestWalk rfl hd_longestWalk ⟨Nat.le_of_ble_eq_true rfl, Nat.le_of_ble_eq_true rfl⟩ rfl rfl (Nat.le_of_ble_eq_true rfl) dL_areAll_492 ⟨Nat.le_of_ble_eq_true rfl, Nat.le_of_ble_eq_true rfl⟩ (fun H locs hP hD hS => ?_)
                                refine lv_eqi (y := nI lw) (hlw2) ?_
                                refine lv_iload hx hb dL_areAll_495 (lv_at hl 5 rfl) ?_
                                refine h_sz (st := [.int (nI lw)]) C hS hP hl.1 (c_L_size l G ca (m := (mayN N w)) (mkN_lt12 _ (by omega))) gL_areAll_L_size rfl rfl rfl hd_L_size ⟨Nat.le_of_ble_eq_true rfl, Nat.le_of_ble_eq_true rfl⟩ rfl rfl (Nat.le_of_ble_eq_true rfl) dL_areAll_497 ⟨Nat.le_of_ble_eq_true rfl, Nat.le_of_ble_eq_true rfl⟩ (fun H locs hP hS => ?_)
                                refine lv_icmp_gt (tgt := 507) hx hb dL_areAll_500 (by decide) (fun c_22 => ?_) (fun c_22 => ?_)
                                · skip
                                  exact absurd c_22 (nI_nlt (a := (popN (mayN N w) 12)) (b := lw) (by omega) (by omega))
                                · skip
                                  refine lv_iconst (v := nI 1) hx hb dL_areAll_503 (by decide) ?_
                                  refine lv_goto (tgt := 508) hx hb dL_areAll_504 (by decide) ?_
                                  refine lv_istore (lv' := [(6, .int (nI 1)), (10, .int (nI ((snN (fun w => popN (perN N w) 12) w) + (popN (perN N w) 12)))), (9, .int ((smD (s_cb v.1) w) + (s_cb v.1 w))), (8, .int ((smD (s_pa v.1) w) + (s_pa v.1 w))), (7, .int (nI ((snN (n_ow N) w) + (n_ow N w)))), (13, .int (nI (perN N w))), (12, .int (nI (mayN N w))), (0, .ref B.1.1), (1, .int (nI (snN (n_wa N) n12))), (2, .int (nI (n_fz N))), (3, .int (nI (n_dk N))), (4, .int (smD (s_cr v.1) n12)), (5, .int (nI (snN (fun p => popN (hldN N p) 12) n12))), (11, .int (nI w))]) hx hb dL_areAll_508 hl (by decide) rfl (fun ls hl => ?_)
                                  refine lv_iconst (v := nI 0) hx hb dL_areAll_510 (by decide) ?_
                                  refine lv_istore (lv' := [(15, .int (nI 0)), (6, .int (nI 1)), (10, .int (nI ((snN (fun w => popN (perN N w) 12) w) + (popN (perN N w) 12)))), (9, .int ((smD (s_cb v.1) w) + (s_cb v.1 w))), (8, .int ((smD (s_pa v.1) w) + (s_pa v.1 w))), (7, .int (nI ((snN (n_ow N) w) + (n_ow N w)))), (13, .int (nI (perN N w))), (12, .int (nI (mayN N w))), (0, .ref B.1.1), (1, .int (nI (snN (n_wa N) n12))), (2, .int (nI (n_fz N))), (3, .int (nI (n_dk N))), (4, .int (smD (s_cr v.1) n12)), (5, .int (nI (snN (fun p => popN (hldN N p) 12) n12))), (11, .int (nI w))]) hx hb dL_areAll_511 hl (by decide) rfl (fun ls hl => ?_)
                                  have loop_513 : ∀ (n3 p : Nat), p + n3 = n12 → ∀ (H : Heap) (locs : List Loc) (ls : Array Slot), va_P G vwCl (XV ca B v) H → va_D A (XV ca B v) → va_S A s.heap H locs → lv_has ls 18 [(0, .ref B.1.1), (1, .int (nI (snN (n_wa N) n12))), (2, .int (nI (n_fz N))), (3, .int (nI (n_dk N))), (4, .int (smD (s_cr v.1) n12)), (5, .int (nI (snN (fun p => popN (hldN N p) 12) n12))), (7, .int (nI ((snN (n_ow N) w) + (n_ow N w)))), (8, .int ((smD (s_pa v.1) w) + (s_pa v.1 w))), (9, .int ((smD (s_cb v.1) w) + (s_cb v.1 w))), (10, .int (nI ((snN (fun w => popN (perN N w) 12) w) + (popN (perN N w) 12)))), (11, .int (nI w)), (12, .int (nI (mayN N w))), (13, .int (nI (perN N w))), (6, .int (nI 1)), (15, .int (nI p))] → W pr l en (rmA : Room) s m ([.ref B.1.1] : List Value).toArray be me c H locs 0 0 Q (F0 m 513 ls []) := by
                                    intro n3
                                    induction n3 with
                                    | zero =>
                                      intro p hi H locs ls hP hD hS hl
                                      obtain rfl : n12 = p := by omega
                                      refine lv_iload hx hb dL_areAll_513 (lv_at hl 14 rfl) ?_
                                      refine lv_bipush (v := nI 12) hx hb dL_areAll_515 (by decide) ?_
                                      refine lv_icmp_ge (tgt := 790) hx hb dL_areAll_517 (by decide) (fun c_23 => ?_) (fun c_23 => ?_)
                                      · skip
                                        refine lv_iinc (v := nI (w + 1)) (lv' := [(11, .int (nI (w + 1))), (0, .ref B.1.1), (1, .int (nI (snN (n_wa N) n12))), (2, .int (nI (n_fz N))), (3, .int (nI (n_dk N))), (4, .int (smD (s_cr v.1) n12)), (5, .int (nI (snN (fun p => popN (hldN N p) 12) n12))), (7, .int (nI ((snN (n_ow N) w) + (n_ow N w)))), (8, .int ((smD (s_pa v.1) w) + (s_pa v.1 w))), (9, .int ((smD (s_cb v.1) w) + (s_cb v.1 w))), (10, .int (nI ((snN (fun w => popN (perN N w) 12) w) + (popN (perN N w) 12)))), (12, .int (nI (mayN N w))), (13, .int (nI (perN N w))), (6, .int (nI 1)), (15, .int (nI n12))]) hx hb dL_areAll_790 hl (k := 10) rfl (nI_1 _) (by decide) rfl (fun ls hl => ?_)
                                        refine lv_goto (tgt := 288) hx hb dL_areAll_793 (by decide) ?_
                                        exact ih (w + 1) (by omega) _ _ _ hP (D_of hD rfl) hS (by rw [show (nI (snN (n_ow N) (w + 1))) = (nI ((snN (n_ow N) w) + (n_ow N w))) from by rfl, show (smD (s_pa v.1) (w + 1)) = ((smD (s_pa v.1) w) + (s_pa v.1 w)) from by rfl, show (smD (s_cb v.1) (w + 1)) = ((smD (s_cb v.1) w) + (s_cb v.1 w)) from by rfl, show (nI (snN (fun w => popN (perN N w) 12) (w + 1))) = (nI ((snN (fun w => popN (perN N w) 12) w) + (popN (perN N w) 12))) from by rfl]; exact lv_sub hl [1, 2, 3, 4, 5, 6, 13, 7, 8, 9, 10, 0] rfl)
                                      · skip
                                        exact absurd (nI_le (a := 12) (b := n12) (by omega) (by omega)) c_23
                                    | succ n3 ih =>
                                      intro p hi H locs ls hP hD hS hl
                                      have hlt : p < n12 := by omega
                                      refine lv_iload hx hb dL_areAll_513 (lv_at hl 14 rfl) ?_
                                      refine lv_bipush (v := nI 12) hx hb dL_areAll_515 (by decide) ?_
                                      refine lv_icmp_ge (tgt := 790) hx hb dL_areAll_517 (by decide) (fun c_24 => ?_) (fun c_24 => ?_)
                                      · skip
                                        exact absurd c_24 (nI_ge (a := p) (b := 12) (by omega) (by omega))
                                      · skip
                                        refine lv_iload hx hb dL_areAll_520 (lv_at hl 13 rfl) ?_
                                        refine lv_if_eq (tgt := 790) hx hb dL_areAll_522 (by decide) (fun c_25 => ?_) (fun c_25 => ?_)
                                        · skip
                                          exact absurd c_25 (by decide)
                                        · skip
                                          have hpd := b.pd (w * 12 + p) (by omega)
                                          have hwb := b.wb p (by omega)
                                          have hh : hldN N p < 64 := mkN_lt _ 6
                                          rcases six N w (p := p) (by omega) (by omega) with ⟨⟨y1, y2, y3⟩ | ⟨y1, y2, y3⟩ | ⟨y0, ⟨y1, y2, y3, y4, y5⟩ | ⟨y1, y2, y3, y4, y5⟩⟩, ⟨x1, x2, x3⟩ | ⟨x1, x2, x3⟩⟩
                                          · skip
                                            refine lv_aload_n hx hb dL_areAll_525 rfl (lv_at hl 0 rfl) ?_
                                            refine lv_iload hx hb dL_areAll_526 (lv_at hl 10 rfl) ?_
                                            refine lv_iload hx hb dL_areAll_528 (lv_at hl 14 rfl) ?_
                                            refine h_op (st := []) C hS hP hD hl.1 (k_why (w := w) (p := p) (by omega) (by omega)) gL_areAll_X4_why rfl hd_why ⟨Nat.le_of_ble_eq_true rfl, Nat.le_of_ble_eq_true rfl⟩ rfl rfl (Nat.le_of_ble_eq_true rfl) dL_areAll_530 ⟨Nat.le_of_ble_eq_true rfl, Nat.le_of_ble_eq_true rfl⟩ (fun H locs hP hD hS => ?_)
                                            refine lv_eqi (y := nI (whyN N w p (n_sh N w))) (e_why h b (w := w) (p := p) (by omega) (by omega)) ?_
                                            refine lv_eqi (y := nI 1) (by rw [y1]) ?_
                                            refine lv_istore (lv' := [(16, .int (nI 1)), (0, .ref B.1.1), (1, .int (nI (snN (n_wa N) n12))), (2, .int (nI (n_fz N))), (3, .int (nI (n_dk N))), (4, .int (smD (s_cr v.1) n12)), (5, .int (nI (snN (fun p => popN (hldN N p) 12) n12))), (7, .int (nI ((snN (n_ow N) w) + (n_ow N w)))), (8, .int ((smD (s_pa v.1) w) + (s_pa v.1 w))), (9, .int ((smD (s_cb v.1) w) + (s_cb v.1 w))), (10, .int (nI ((snN (fun w => popN (perN N w) 12) w) + (popN (perN N w) 12)))), (11, .int (nI w)), (12, .int (nI (mayN N w))), (13, .int (nI (perN N w))), (6, .int (nI 1)), (15, .int (nI p))]) hx hb dL_areAll_533 hl (by decide) rfl (fun ls hl => ?_)
                                            refine lv_aload_n hx hb dL_areAll_535 rfl (lv_at hl 1 rfl) ?_
                                            refine lv_iload hx hb dL_areAll_536 (lv_at hl 11 rfl) ?_
                                            refine lv_iload hx hb dL_areAll_538 (lv_at hl 15 rfl) ?_
                                            refine h_op (st := []) C hS hP hD hl.1 (k_holds (w := w) (p := p) (by omega) (by omega)) gL_areAll_X4_holds rfl hd_holds ⟨Nat.le_of_ble_eq_true rfl, Nat.le_of_ble_eq_true rfl⟩ rfl rfl (Nat.le_of_ble_eq_true rfl) dL_areAll_540 ⟨Nat.le_of_ble_eq_true rfl, Nat.le_of_ble_eq_true rfl⟩ (fun H locs hP hD hS => ?_)
                                            refine lv_eqi (y := (-6)) (by rw [e_hold h b (w := w) (p := p) (by omega) (by omega), if_pos x1]) ?_
                                            refine lv_istore (lv' := [(17, .int (-6)), (16, .int (nI 1)), (0, .ref B.1.1), (1, .int (nI (snN (n_wa N) n12))), (2, .int (nI (n_fz N))), (3, .int (nI (n_dk N))), (4, .int (smD (s_cr v.1) n12)), (5, .int (nI (snN (fun p => popN (hldN N p) 12) n12))), (7, .int (nI ((snN (n_ow N) w) + (n_ow N w)))), (8, .int ((smD (s_pa v.1) w) + (s_pa v.1 w))), (9, .int ((smD (s_cb v.1) w) + (s_cb v.1 w))), (10, .int (nI ((snN (fun w => popN (perN N w) 12) w) + (popN (perN N w) 12)))), (11, .int (nI w)), (12, .int (nI (mayN N w))), (13, .int (nI (perN N w))), (6, .int (nI 1)), (15, .int (nI p))]) hx hb dL_areAll_543 hl (by decide) rfl (fun ls hl => ?_)
                                            refine lv_iload hx hb dL_areAll_545 (lv_at hl 1 rfl) ?_
                                            refine lv_if_lt (tgt := 781) hx hb dL_areAll_547 (by decide) (fun c_26 => ?_) (fun c_26 => ?_)
                                            · skip
                                              exact absurd c_26 (by decide)
                                            · skip
                                              refine lv_iload hx hb dL_areAll_550 (lv_at hl 1 rfl) ?_
                                              refine lv_iconst (v := nI 4) hx hb dL_areAll_552 (by decide) ?_
                                              refine lv_icmp_ge (tgt := 781) hx hb dL_areAll_553 (by decide) (fun c_27 => ?_) (fun c_27 => ?_)
                                              · skip
                                                exact absurd c_27 (by decide)
                                              · skip
                                                refine lv_iload hx hb dL_areAll_556 (lv_at hl 1 rfl) ?_
                                                refine lv_if_ne (tgt := 565) hx hb dL_areAll_558 (by decide) (fun c_28 => ?_) (fun c_28 => ?_)
                                                · skip
                                                  refine lv_iconst (v := nI 0) hx hb dL_areAll_565 (by decide) ?_
                                                  refine lv_iload hx hb dL_areAll_566 (lv_at hl 13 rfl) ?_
                                                  refine lv_iload hx hb dL_areAll_568 (lv_at hl 16 rfl) ?_
                                                  refine lv_ishr hx hb dL_areAll_570 ?_
                                                  refine lv_iconst (v := nI 1) hx hb dL_areAll_571 (by decide) ?_
                                                  refine lv_iand hx hb dL_areAll_572 ?_
                                                  refine lv_eqi (y := nI 0) (by rw [sb_N _ hm1 p (by omega), y2]) ?_
                                                  refine lv_iconst (v := nI 1) hx hb dL_areAll_573 (by decide) ?_
                                                  refine lv_icmp_ne (tgt := 581) hx hb dL_areAll_574 (by decide) (fun c_29 => ?_) (fun c_29 => ?_)
                                                  · skip
                                                    refine lv_iconst (v := nI 0) hx hb dL_areAll_581 (by decide) ?_
                                                    refine lv_icmp_ne (tgt := 781) hx hb dL_areAll_582 (by decide) (fun c_30 => ?_) (fun c_30 => ?_)
                                                    · skip
                                                      exact absurd (by decide) c_30
                                                    · skip
                                                      refine lv_iload hx hb dL_areAll_585 (lv_at hl 1 rfl) ?_
                                                      refine lv_iconst (v := nI 1) hx hb dL_areAll_587 (by decide) ?_
                                                      refine lv_icmp_ne (tgt := 595) hx hb dL_areAll_588 (by decide) (fun c_31 => ?_) (fun c_31 => ?_)
                                                      · skip
                                                        exact absurd (by decide) c_31
                                                      · skip
                                                        refine lv_iconst (v := nI 1) hx hb dL_areAll_591 (by decide) ?_
                                                        refine lv_goto (tgt := 596) hx hb dL_areAll_592 (by decide) ?_
                                                        refine lv_iload_n hx hb dL_areAll_596 rfl (lv_at hl 5 rfl) ?_
                                                        refine lv_iload hx hb dL_areAll_597 (lv_at hl 16 rfl) ?_
                                                        refine lv_ishr hx hb dL_areAll_599 ?_
                                                        refine lv_iconst (v := nI 1) hx hb dL_areAll_600 (by decide) ?_
                                                        refine lv_iand hx hb dL_areAll_601 ?_
                                                        refine lv_eqi (y := nI 1) (by rw [sb_N _ b.dk p (by omega), y3]) ?_
                                                        refine lv_iconst (v := nI 1) hx hb dL_areAll_602 (by decide) ?_
                                                        refine lv_icmp_ne (tgt := 610) hx hb dL_areAll_603 (by decide) (fun c_32 => ?_) (fun c_32 => ?_)
                                                        · skip
                                                          exact absurd (by decide) c_32
                                                        · skip
                                                          refine lv_iconst (v := nI 1) hx hb dL_areAll_606 (by decide) ?_
                                                          refine lv_goto (tgt := 611) hx hb dL_areAll_607 (by decide) ?_
                                                          refine lv_icmp_ne (tgt := 781) hx hb dL_areAll_611 (by decide) (fun c_33 => ?_) (fun c_33 => ?_)
                                                          · skip
                                                            exact absurd (by decide) c_33
                                                          · skip
                                                            refine lv_iload hx hb dL_areAll_614 (lv_at hl 1 rfl) ?_
                                                            refine lv_iconst (v := nI 2) hx hb dL_areAll_616 (by decide) ?_
                                                            refine lv_icmp_ne (tgt := 657) hx hb dL_areAll_617 (by decide) (fun c_34 => ?_) (fun c_34 => ?_)
                                                            · skip
                                                              refine lv_iload hx hb dL_areAll_657 (lv_at hl 1 rfl) ?_
                                                              refine lv_iconst (v := nI 3) hx hb dL_areAll_659 (by decide) ?_
                                                              refine lv_icmp_ne (tgt := 690) hx hb dL_areAll_660 (by decide) (fun c_35 => ?_) (fun c_35 => ?_)
                                                              · skip
                                                                refine lv_iload hx hb dL_areAll_690 (lv_at hl 0 rfl) ?_
                                                                refine lv_bipush (v := (-6)) hx hb dL_areAll_692 (by decide) ?_
                                                                refine lv_icmp_eq (tgt := 709) hx hb dL_areAll_694 (by decide) (fun c_36 => ?_) (fun c_36 => ?_)
                                                                · skip
                                                                  refine lv_iload hx hb dL_areAll_709 (lv_at hl 0 rfl) ?_
                                                                  refine lv_bipush (v := (-6)) hx hb dL_areAll_711 (by decide) ?_
                                                                  refine lv_icmp_eq (tgt := 720) hx hb dL_areAll_713 (by decide) (fun c_37 => ?_) (fun c_37 => ?_)
                                                                  · skip
                                                                    refine lv_iconst (v := nI 0) hx hb dL_areAll_720 (by decide) ?_
                                                                    refine lv_iload hx hb dL_areAll_721 (lv_at hl 14 rfl) ?_
                                                                    refine lv_iload hx hb dL_areAll_723 (lv_at hl 16 rfl) ?_
                                                                    refine lv_ishr hx hb dL_areAll_725 ?_
                                                                    refine lv_iconst (v := nI 1) hx hb dL_areAll_726 (by decide) ?_
                                                                    refine lv_iand hx hb dL_areAll_727 ?_
                                                                    refine lv_eqi (y := nI 0) (by rw [sb_N _ hp1 p (by omega), x2]) ?_
                                                                    refine lv_iconst (v := nI 1) hx hb dL_areAll_728 (by decide) ?_
                                                                    refine lv_icmp_ne (tgt := 736) hx hb dL_areAll_729 (by decide) (fun c_38 => ?_) (fun c_38 => ?_)
                                                                    · skip
                                                                      refine lv_iconst (v := nI 0) hx hb dL_areAll_736 (by decide) ?_
                                                                      refine lv_icmp_ne (tgt := 781) hx hb dL_areAll_737 (by decide) (fun c_39 => ?_) (fun c_39 => ?_)
                                                                      · skip
                                                                        exact absurd (by decide) c_39
                                                                      · skip
                                                                        refine lv_aload_n hx hb dL_areAll_740 rfl (lv_at hl 2 rfl) ?_
                                                                        refine lv_iload hx hb dL_areAll_741 (lv_at hl 16 rfl) ?_
                                                                        refine lv_bipush (v := nI 6) hx hb dL_areAll_743 (by decide) ?_
                                                                        refine h_op (st := []) C hS hP hD hl.1 (k_puddle (p := p) (by omega) (q := 6) (by decide)) gL_areAll_X4_puddle rfl hd_puddle ⟨Nat.le_of_ble_eq_true rfl, Nat.le_of_ble_eq_true rfl⟩ rfl rfl (Nat.le_of_ble_eq_true rfl) dL_areAll_745 ⟨Nat.le_of_ble_eq_true rfl, Nat.le_of_ble_eq_true rfl⟩ (fun H locs hP hD hS => ?_)
                                                                        refine lv_eqi (y := nI (hldN N p)) (e_p6 h b (p := p) (by omega)) ?_
                                                                        refine lv_iload hx hb dL_areAll_748 (lv_at hl 12 rfl) ?_
                                                                        refine lv_ishr hx hb dL_areAll_750 ?_
                                                                        refine lv_iconst (v := nI 1) hx hb dL_areAll_751 (by decide) ?_
                                                                        refine lv_iand hx hb dL_areAll_752 ?_
                                                                        refine lv_eqi (y := nI 0) (by rw [sb_N _ (by omega) w (by omega), x3]) ?_
                                                                        refine lv_iconst (v := nI 1) hx hb dL_areAll_753 (by decide) ?_
                                                                        refine lv_icmp_ne (tgt := 761) hx hb dL_areAll_754 (by decide) (fun c_40 => ?_) (fun c_40 => ?_)
                                                                        · skip
                                                                          refine lv_iconst (v := nI 0) hx hb dL_areAll_761 (by decide) ?_
                                                                          refine lv_iload hx hb dL_areAll_762 (lv_at hl 0 rfl) ?_
                                                                          refine lv_bipush (v := (-6)) hx hb dL_areAll_764 (by decide) ?_
                                                                          refine lv_icmp_eq (tgt := 773) hx hb dL_areAll_766 (by decide) (fun c_41 => ?_) (fun c_41 => ?_)
                                                                          · skip
                                                                            refine lv_iconst (v := nI 0) hx hb dL_areAll_773 (by decide) ?_
                                                                            refine lv_icmp_ne (tgt := 781) hx hb dL_areAll_774 (by decide) (fun c_42 => ?_) (fun c_42 => ?_)
                                                                            · skip
                                                                              exact absurd (by decide) c_42
                                                                            · skip
                                                                              refine lv_iconst (v := nI 1) hx hb dL_areAll_777 (by decide) ?_
                                                                              refine lv_goto (tgt := 782) hx hb dL_areAll_778 (by decide) ?_
                                                                              refine lv_istore (lv' := [(6, .int (nI 1)), (17, .int (-6)), (16, .int (nI 1)), (0, .ref B.1.1), (1, .int (nI (snN (n_wa N) n12))), (2, .int (nI (n_fz N))), (3, .int (nI (n_dk N))), (4, .int (smD (s_cr v.1) n12)), (5, .int (nI (snN (fun p => popN (hldN N p) 12) n12))), (7, .int (nI ((snN (n_ow N) w) + (n_ow N w)))), (8, .int ((smD (s_pa v.1) w) + (s_pa v.1 w))), (9, .int ((smD (s_cb v.1) w) + (s_cb v.1 w))), (10, .int (nI ((snN (fun w => popN (perN N w) 12) w) + (popN (perN N w) 12)))), (11, .int (nI w)), (12, .int (nI (mayN N w))), (13, .int (nI (perN N w))), (15, .int (nI p))]) hx hb dL_areAll_782 hl (by decide) rfl (fun ls hl => ?_)
                                                                              refine lv_iinc (v := nI (p + 1)) (lv' := [(15, .int (nI (p + 1))), (6, .int (nI 1)), (17, .int (-6)), (16, .int (nI 1)), (0, .ref B.1.1), (1, .int (nI (snN (n_wa N) n12))), (2, .int (nI (n_fz N))), (3, .int (nI (n_dk N))), (4, .int (smD (s_cr v.1) n12)), (5, .int (nI (snN (fun p => popN (hldN N p) 12) n12))), (7, .int (nI ((snN (n_ow N) w) + (n_ow N w)))), (8, .int ((smD (s_pa v.1) w) + (s_pa v.1 w))), (9, .int ((smD (s_cb v.1) w) + (s_cb v.1 w))), (10, .int (nI ((snN (fun w => popN (perN N w) 12) w) + (popN (perN N w) 12)))), (11, .int (nI w)), (12, .int (nI (mayN N w))), (13, .int (nI (perN N w)))]) hx hb dL_areAll_784 hl (k := 16) rfl (nI_1 _) (by decide) rfl (fun ls hl => ?_)
                                                                              refine lv_goto (tgt := 513) hx hb dL_areAll_787 (by decide) ?_
                                                                              exact ih (p + 1) (by omega) _ _ _ hP (D_of hD rfl) hS (lv_sub hl [4, 5, 6, 7, 8, 9, 10, 11, 12, 13, 14, 15, 16, 1, 0] rfl)
                                                                          · skip
                                                                            exact absurd (by decide) c_41
                                                                        · skip
                                                                          exact absurd c_40 (by decide)
                                                                    · skip
                                                                      exact absurd c_38 (by decide)
                                                                  · skip
                                                                    exact absurd (by decide) c_37
                                                                · skip
                                                                  exact absurd (by decide) c_36
                                                              · skip
                                                                exact absurd c_35 (by decide)
                                                            · skip
                                                              exact absurd c_34 (by decide)
                                                  · skip
                                                    exact absurd c_29 (by decide)
                                                · skip
                                                  exact absurd c_28 (by decide)
                                          · skip
                                            refine lv_aload_n hx hb dL_areAll_525 rfl (lv_at hl 0 rfl) ?_
                                            refine lv_iload hx hb dL_areAll_526 (lv_at hl 10 rfl) ?_
                                            refine lv_iload hx hb dL_areAll_528 (lv_at hl 14 rfl) ?_
                                            refine h_op (st := []) C hS hP hD hl.1 (k_why (w := w) (p := p) (by omega) (by omega)) gL_areAll_X4_why rfl hd_why ⟨Nat.le_of_ble_eq_true rfl, Nat.le_of_ble_eq_true rfl⟩ rfl rfl (Nat.le_of_ble_eq_true rfl) dL_areAll_530 ⟨Nat.le_of_ble_eq_true rfl, Nat.le_of_ble_eq_true rfl⟩ (fun H locs hP hD hS => ?_)
                                            refine lv_eqi (y := nI (whyN N w p (n_sh N w))) (e_why h b (w := w) (p := p) (by omega) (by omega)) ?_
                                            refine lv_eqi (y := nI 1) (by rw [y1]) ?_
                                            refine lv_istore (lv' := [(16, .int (nI 1)), (0, .ref B.1.1), (1, .int (nI (snN (n_wa N) n12))), (2, .int (nI (n_fz N))), (3, .int (nI (n_dk N))), (4, .int (smD (s_cr v.1) n12)), (5, .int (nI (snN (fun p => popN (hldN N p) 12) n12))), (7, .int (nI ((snN (n_ow N) w) + (n_ow N w)))), (8, .int ((smD (s_pa v.1) w) + (s_pa v.1 w))), (9, .int ((smD (s_cb v.1) w) + (s_cb v.1 w))), (10, .int (nI ((snN (fun w => popN (perN N w) 12) w) + (popN (perN N w) 12)))), (11, .int (nI w)), (12, .int (nI (mayN N w))), (13, .int (nI (perN N w))), (6, .int (nI 1)), (15, .int (nI p))]) hx hb dL_areAll_533 hl (by decide) rfl (fun ls hl => ?_)
                                            refine lv_aload_n hx hb dL_areAll_535 rfl (lv_at hl 1 rfl) ?_
                                            refine lv_iload hx hb dL_areAll_536 (lv_at hl 11 rfl) ?_
                                            refine lv_iload hx hb dL_areAll_538 (lv_at hl 15 rfl) ?_
                                            refine h_op (st := []) C hS hP hD hl.1 (k_holds (w := w) (p := p) (by omega) (by omega)) gL_areAll_X4_holds rfl hd_holds ⟨Nat.le_of_ble_eq_true rfl, Nat.le_of_ble_eq_true rfl⟩ rfl rfl (Nat.le_of_ble_eq_true rfl) dL_areAll_540 ⟨Nat.le_of_ble_eq_true rfl, Nat.le_of_ble_eq_true rfl⟩ (fun H locs hP hD hS => ?_)
                                            refine lv_eqi (y := nI (n_pd N (w * 12 + p))) (by rw [e_hold h b (w := w) (p := p) (by omega) (by omega), if_neg (by omega)]) ?_
                                            refine lv_istore (lv' := [(17, .int (nI (n_pd N (w * 12 + p)))), (16, .int (nI 1)), (0, .ref B.1.1), (1, .int (nI (snN (n_wa N) n12))), (2, .int (nI (n_fz N))), (3, .int (nI (n_dk N))), (4, .int (smD (s_cr v.1) n12)), (5, .int (nI (snN (fun p => popN (hldN N p) 12) n12))), (7, .int (nI ((snN (n_ow N) w) + (n_ow N w)))), (8, .int ((smD (s_pa v.1) w) + (s_pa v.1 w))), (9, .int ((smD (s_cb v.1) w) + (s_cb v.1 w))), (10, .int (nI ((snN (fun w => popN (perN N w) 12) w) + (popN (perN N w) 12)))), (11, .int (nI w)), (12, .int (nI (mayN N w))), (13, .int (nI (perN N w))), (6, .int (nI 1)), (15, .int (nI p))]) hx hb dL_areAll_543 hl (by decide) rfl (fun ls hl => ?_)
                                            refine lv_iload hx hb dL_areAll_545 (lv_at hl 1 rfl) ?_
                                            refine lv_if_lt (tgt := 781) hx hb dL_areAll_547 (by decide) (fun c_43 => ?_) (fun c_43 => ?_)
                                            · skip
                                              exact absurd c_43 (by decide)
                                            · skip
                                              refine lv_iload hx hb dL_areAll_550 (lv_at hl 1 rfl) ?_
                                              refine lv_iconst (v := nI 4) hx hb dL_areAll_552 (by decide) ?_
                                              refine lv_icmp_ge (tgt := 781) hx hb dL_areAll_553 (by decide) (fun c_44 => ?_) (fun c_44 => ?_)
                                              · skip
                                                exact absurd c_44 (by decide)
                                              · skip
                                                refine lv_iload hx hb dL_areAll_556 (lv_at hl 1 rfl) ?_
                                                refine lv_if_ne (tgt := 565) hx hb dL_areAll_558 (by decide) (fun c_45 => ?_) (fun c_45 => ?_)
                                                · skip
                                                  refine lv_iconst (v := nI 0) hx hb dL_areAll_565 (by decide) ?_
                                                  refine lv_iload hx hb dL_areAll_566 (lv_at hl 13 rfl) ?_
                                                  refine lv_iload hx hb dL_areAll_568 (lv_at hl 16 rfl) ?_
                                                  refine lv_ishr hx hb dL_areAll_570 ?_
                                                  refine lv_iconst (v := nI 1) hx hb dL_areAll_571 (by decide) ?_
                                                  refine lv_iand hx hb dL_areAll_572 ?_
                                                  refine lv_eqi (y := nI 0) (by rw [sb_N _ hm1 p (by omega), y2]) ?_
                                                  refine lv_iconst (v := nI 1) hx hb dL_areAll_573 (by decide) ?_
                                                  refine lv_icmp_ne (tgt := 581) hx hb dL_areAll_574 (by decide) (fun c_46 => ?_) (fun c_46 => ?_)
                                                  · skip
                                                    refine lv_iconst (v := nI 0) hx hb dL_areAll_581 (by decide) ?_
                                                    refine lv_icmp_ne (tgt := 781) hx hb dL_areAll_582 (by decide) (fun c_47 => ?_) (fun c_47 => ?_)
                                                    · skip
                                                      exact absurd (by decide) c_47
                                                    · skip
                                                      refine lv_iload hx hb dL_areAll_585 (lv_at hl 1 rfl) ?_
                                                      refine lv_iconst (v := nI 1) hx hb dL_areAll_587 (by decide) ?_
                                                      refine lv_icmp_ne (tgt := 595) hx hb dL_areAll_588 (by decide) (fun c_48 => ?_) (fun c_48 => ?_)
                                                      · skip
                                                        exact absurd (by decide) c_48
                                                      · skip
                                                        refine lv_iconst (v := nI 1) hx hb dL_areAll_591 (by decide) ?_
                                                        refine lv_goto (tgt := 596) hx hb dL_areAll_592 (by decide) ?_
                                                        refine lv_iload_n hx hb dL_areAll_596 rfl (lv_at hl 5 rfl) ?_
                                                        refine lv_iload hx hb dL_areAll_597 (lv_at hl 16 rfl) ?_
                                                        refine lv_ishr hx hb dL_areAll_599 ?_
                                                        refine lv_iconst (v := nI 1) hx hb dL_areAll_600 (by decide) ?_
                                                        refine lv_iand hx hb dL_areAll_601 ?_
                                                        refine lv_eqi (y := nI 1) (by rw [sb_N _ b.dk p (by omega), y3]) ?_
                                                        refine lv_iconst (v := nI 1) hx hb dL_areAll_602 (by decide) ?_
                                                        refine lv_icmp_ne (tgt := 610) hx hb dL_areAll_603 (by decide) (fun c_49 => ?_) (fun c_49 => ?_)
                                                        · skip
                                                          exact absurd (by decide) c_49
                                                        · skip
                                                          refine lv_iconst (v := nI 1) hx hb dL_areAll_606 (by decide) ?_
                                                          refine lv_goto (tgt := 611) hx hb dL_areAll_607 (by decide) ?_
                                                          refine lv_icmp_ne (tgt := 781) hx hb dL_areAll_611 (by decide) (fun c_50 => ?_) (fun c_50 => ?_)
                                                          · skip
                                                            exact absurd (by decide) c_50
                                                          · skip
                                                            refine lv_iload hx hb dL_areAll_614 (lv_at hl 1 rfl) ?_
                                                            refine lv_iconst (v := nI 2) hx hb dL_areAll_616 (by decide) ?_
                                                            refine lv_icmp_ne (tgt := 657) hx hb dL_areAll_617 (by decide) (fun c_51 => ?_) (fun c_51 => ?_)
                                                            · skip
                                                              refine lv_iload hx hb dL_areAll_657 (lv_at hl 1 rfl) ?_
                                                              refine lv_iconst (v := nI 3) hx hb dL_areAll_659 (by decide) ?_
                                                              refine lv_icmp_ne (tgt := 690) hx hb dL_areAll_660 (by decide) (fun c_52 => ?_) (fun c_52 => ?_)
                                                              · skip
                                                                refine lv_iload hx hb dL_areAll_690 (lv_at hl 0 rfl) ?_
                                                                refine lv_bipush (v := (-6)) hx hb dL_areAll_692 (by decide) ?_
                                                                refine lv_icmp_eq (tgt := 709) hx hb dL_areAll_694 (by decide) (fun c_53 => ?_) (fun c_53 => ?_)
                                                                · skip
                                                                  exact absurd c_53 (nI_n6 (by omega))
                                                                · skip
                                                                  refine lv_iload hx hb dL_areAll_697 (lv_at hl 0 rfl) ?_
                                                                  refine lv_if_le (tgt := 781) hx hb dL_areAll_699 (by decide) (fun c_54 => ?_) (fun c_54 => ?_)
                                                                  · skip
                                                                    exact absurd c_54 (nI_ge (a := 0) (b := (n_pd N (w * 12 + p))) (by omega) (by omega))
                                                                  · skip
                                                                    refine lv_iload hx hb dL_areAll_702 (lv_at hl 0 rfl) ?_
                                                                    refine lv_bipush (v := nI 30) hx hb dL_areAll_704 (by decide) ?_
                                                                    refine lv_icmp_gt (tgt := 781) hx hb dL_areAll_706 (by decide) (fun c_55 => ?_) (fun c_55 => ?_)
                                                                    · skip
                                                                      exact absurd c_55 (nI_nlt (a := 30) (b := (n_pd N (w * 12 + p))) (by omega) (by omega))
                                                                    · skip
                                                                      refine lv_iload hx hb dL_areAll_709 (lv_at hl 0 rfl) ?_
                                                                      refine lv_bipush (v := (-6)) hx hb dL_areAll_711 (by decide) ?_
                                                                      refine lv_icmp_eq (tgt := 720) hx hb dL_areAll_713 (by decide) (fun c_56 => ?_) (fun c_56 => ?_)
                                                                      · skip
                                                                        exact absurd c_56 (nI_n6 (by omega))
                                                                      · skip
                                                                        refine lv_iconst (v := nI 1) hx hb dL_areAll_716 (by decide) ?_
                                                                        refine lv_goto (tgt := 721) hx hb dL_areAll_717 (by decide) ?_
                                                                        refine lv_iload hx hb dL_areAll_721 (lv_at hl 14 rfl) ?_
                                                                        refine lv_iload hx hb dL_areAll_723 (lv_at hl 16 rfl) ?_
                                                                        refine lv_ishr hx hb dL_areAll_725 ?_
                                                                        refine lv_iconst (v := nI 1) hx hb dL_areAll_726 (by decide) ?_
                                                                        refine lv_iand hx hb dL_areAll_727 ?_
                                                                        refine lv_eqi (y := nI 1) (by rw [sb_N _ hp1 p (by omega), x2]) ?_
                                                                        refine lv_iconst (v := nI 1) hx hb dL_areAll_728 (by decide) ?_
                                                                        refine lv_icmp_ne (tgt := 736) hx hb dL_areAll_729 (by decide) (fun c_57 => ?_) (fun c_57 => ?_)
                                                                        · skip
                                                                          exact absurd (by decide) c_57
                                                                        · skip
                                                                          refine lv_iconst (v := nI 1) hx hb dL_areAll_732 (by decide) ?_
                                                                          refine lv_goto (tgt := 737) hx hb dL_areAll_733 (by decide) ?_
                                                                          refine lv_icmp_ne (tgt := 781) hx hb dL_areAll_737 (by decide) (fun c_58 => ?_) (fun c_58 => ?_)
                                                                          · skip
                                                                            exact absurd (by decide) c_58
                                                                          · skip
                                                                            refine lv_aload_n hx hb dL_areAll_740 rfl (lv_at hl 2 rfl) ?_
                                                                            refine lv_iload hx hb dL_areAll_741 (lv_at hl 16 rfl) ?_
                                                                            refine lv_bipush (v := nI 6) hx hb dL_areAll_743 (by decide) ?_
                                                                            refine h_op (st := []) C hS hP hD hl.1 (k_puddle (p := p) (by omega) (q := 6) (by decide)) gL_areAll_X4_puddle rfl hd_puddle ⟨Nat.le_of_ble_eq_true rfl, Nat.le_of_ble_eq_true rfl⟩ rfl rfl (Nat.le_of_ble_eq_true rfl) dL_areAll_745 ⟨Nat.le_of_ble_eq_true rfl, Nat.le_of_ble_eq_true rfl⟩ (fun H locs hP hD hS => ?_)
                                                                            refine lv_eqi (y := nI (hldN N p)) (e_p6 h b (p := p) (by omega)) ?_
                                                                            refine lv_iload hx hb dL_areAll_748 (lv_at hl 12 rfl) ?_
                                                                            refine lv_ishr hx hb dL_areAll_750 ?_
                                                                            refine lv_iconst (v := nI 1) hx hb dL_areAll_751 (by decide) ?_
                                                                            refine lv_iand hx hb dL_areAll_752 ?_
                                                                            refine lv_eqi (y := nI 1) (by rw [sb_N _ (by omega) w (by omega), x3]) ?_
                                                                            refine lv_iconst (v := nI 1) hx hb dL_areAll_753 (by decide) ?_
                                                                            refine lv_icmp_ne (tgt := 761) hx hb dL_areAll_754 (by decide) (fun c_59 => ?_) (fun c_59 => ?_)
                                                                            · skip
                                                                              exact absurd (by decide) c_59
                                                                            · skip
                                                                              refine lv_iconst (v := nI 1) hx hb dL_areAll_757 (by decide) ?_
                                                                              refine lv_goto (tgt := 762) hx hb dL_areAll_758 (by decide) ?_
                                                                              refine lv_iload hx hb dL_areAll_762 (lv_at hl 0 rfl) ?_
                                                                              refine lv_bipush (v := (-6)) hx hb dL_areAll_764 (by decide) ?_
                                                                              refine lv_icmp_eq (tgt := 773) hx hb dL_areAll_766 (by decide) (fun c_60 => ?_) (fun c_60 => ?_)
                                                                              · skip
                                                                                exact absurd c_60 (nI_n6 (by omega))
                                                                              · skip
                                                                                refine lv_iconst (v := nI 1) hx hb dL_areAll_769 (by decide) ?_
                                                                                refine lv_goto (tgt := 774) hx hb dL_areAll_770 (by decide) ?_
                                                                                refine lv_icmp_ne (tgt := 781) hx hb dL_areAll_774 (by decide) (fun c_61 => ?_) (fun c_61 => ?_)
                                                                                · skip
                                                                                  exact absurd (by decide) c_61
                                                                                · skip
                                                                                  refine lv_iconst (v := nI 1) hx hb dL_areAll_777 (by decide) ?_
                                                                                  refine lv_goto (tgt := 782) hx hb dL_areAll_778 (by decide) ?_
                                                                                  refine lv_istore (lv' := [(6, .int (nI 1)), (17, .int (nI (n_pd N (w * 12 + p)))), (16, .int (nI 1)), (0, .ref B.1.1), (1, .int (nI (snN (n_wa N) n12))), (2, .int (nI (n_fz N))), (3, .int (nI (n_dk N))), (4, .int (smD (s_cr v.1) n12)), (5, .int (nI (snN (fun p => popN (hldN N p) 12) n12))), (7, .int (nI ((snN (n_ow N) w) + (n_ow N w)))), (8, .int ((smD (s_pa v.1) w) + (s_pa v.1 w))), (9, .int ((smD (s_cb v.1) w) + (s_cb v.1 w))), (10, .int (nI ((snN (fun w => popN (perN N w) 12) w) + (popN (perN N w) 12)))), (11, .int (nI w)), (12, .int (nI (mayN N w))), (13, .int (nI (perN N w))), (15, .int (nI p))]) hx hb dL_areAll_782 hl (by decide) rfl (fun ls hl => ?_)
                                                                                  refine lv_iinc (v := nI (p + 1)) (lv' := [(15, .int (nI (p + 1))), (6, .int (nI 1)), (17, .int (nI (n_pd N (w * 12 + p)))), (16, .int (nI 1)), (0, .ref B.1.1), (1, .int (nI (snN (n_wa N) n12))), (2, .int (nI (n_fz N))), (3, .int (nI (n_dk N))), (4, .int (smD (s_cr v.1) n12)), (5, .int (nI (snN (fun p => popN (hldN N p) 12) n12))), (7, .int (nI ((snN (n_ow N) w) + (n_ow N w)))), (8, .int ((smD (s_pa v.1) w) + (s_pa v.1 w))), (9, .int ((smD (s_cb v.1) w) + (s_cb v.1 w))), (10, .int (nI ((snN (fun w => popN (perN N w) 12) w) + (popN (perN N w) 12)))), (11, .int (nI w)), (12, .int (nI (mayN N w))), (13, .int (nI (perN N w)))]) hx hb dL_areAll_784 hl (k := 16) rfl (nI_1 _) (by decide) rfl (fun ls hl => ?_)
                                                                                  refine lv_goto (tgt := 513) hx hb dL_areAll_787 (by decide) ?_
                                                                                  exact ih (p + 1) (by omega) _ _ _ hP (D_of hD rfl) hS (lv_sub hl [4, 5, 6, 7, 8, 9, 10, 11, 12, 13, 14, 15, 16, 1, 0] rfl)
                                                              · skip
                                                                exact absurd c_52 (by decide)
                                                            · skip
                                                              exact absurd c_51 (by decide)
                                                  · skip
                                                    exact absurd c_46 (by decide)
                                                · skip
                                                  exact absurd c_45 (by decide)
                                          · skip
                                            refine lv_aload_n hx hb dL_areAll_525 rfl (lv_at hl 0 rfl) ?_
                                            refine lv_iload hx hb dL_areAll_526 (lv_at hl 10 rfl) ?_
                                            refine lv_iload hx hb dL_areAll_528 (lv_at hl 14 rfl) ?_
                                            refine h_op (st := []) C hS hP hD hl.1 (k_why (w := w) (p := p) (by omega) (by omega)) gL_areAll_X4_why rfl hd_why ⟨Nat.le_of_ble_eq_true rfl, Nat.le_of_ble_eq_true rfl⟩ rfl rfl (Nat.le_of_ble_eq_true rfl) dL_areAll_530 ⟨Nat.le_of_ble_eq_true rfl, Nat.le_of_ble_eq_true rfl⟩ (fun H locs hP hD hS => ?_)
                                            refine lv_eqi (y := nI (whyN N w p (n_sh N w))) (e_why h b (w := w) (p := p) (by omega) (by omega)) ?_
                                            refine lv_eqi (y := nI 0) (by rw [y1]) ?_
                                            refine lv_istore (lv' := [(16, .int (nI 0)), (0, .ref B.1.1), (1, .int (nI (snN (n_wa N) n12))), (2, .int (nI (n_fz N))), (3, .int (nI (n_dk N))), (4, .int (smD (s_cr v.1) n12)), (5, .int (nI (snN (fun p => popN (hldN N p) 12) n12))), (7, .int (nI ((snN (n_ow N) w) + (n_ow N w)))), (8, .int ((smD (s_pa v.1) w) + (s_pa v.1 w))), (9, .int ((smD (s_cb v.1) w) + (s_cb v.1 w))), (10, .int (nI ((snN (fun w => popN (perN N w) 12) w) + (popN (perN N w) 12)))), (11, .int (nI w)), (12, .int (nI (mayN N w))), (13, .int (nI (perN N w))), (6, .int (nI 1)), (15, .int (nI p))]) hx hb dL_areAll_533 hl (by decide) rfl (fun ls hl => ?_)
                                            refine lv_aload_n hx hb dL_areAll_535 rfl (lv_at hl 1 rfl) ?_
                                            refine lv_iload hx hb dL_areAll_536 (lv_at hl 11 rfl) ?_
                                            refine lv_iload hx hb dL_areAll_538 (lv_at hl 15 rfl) ?_
                                            refine h_op (st := []) C hS hP hD hl.1 (k_holds (w := w) (p := p) (by omega) (by omega)) gL_areAll_X4_holds rfl hd_holds ⟨Nat.le_of_ble_eq_true rfl, Nat.le_of_ble_eq_true rfl⟩ rfl rfl (Nat.le_of_ble_eq_true rfl) dL_areAll_540 ⟨Nat.le_of_ble_eq_true rfl, Nat.le_of_ble_eq_true rfl⟩ (fun H locs hP hD hS => ?_)
                                            refine lv_eqi (y := (-6)) (by rw [e_hold h b (w := w) (p := p) (by omega) (by omega), if_pos x1]) ?_
                                            refine lv_istore (lv' := [(17, .int (-6)), (16, .int (nI 0)), (0, .ref B.1.1), (1, .int (nI (snN (n_wa N) n12))), (2, .int (nI (n_fz N))), (3, .int (nI (n_dk N))), (4, .int (smD (s_cr v.1) n12)), (5, .int (nI (snN (fun p => popN (hldN N p) 12) n12))), (7, .int (nI ((snN (n_ow N) w) + (n_ow N w)))), (8, .int ((smD (s_pa v.1) w) + (s_pa v.1 w))), (9, .int ((smD (s_cb v.1) w) + (s_cb v.1 w))), (10, .int (nI ((snN (fun w => popN (perN N w) 12) w) + (popN (perN N w) 12)))), (11, .int (nI w)), (12, .int (nI (mayN N w))), (13, .int (nI (perN N w))), (6, .int (nI 1)), (15, .int (nI p))]) hx hb dL_areAll_543 hl (by decide) rfl (fun ls hl => ?_)
                                            refine lv_iload hx hb dL_areAll_545 (lv_at hl 1 rfl) ?_
                                            refine lv_if_lt (tgt := 781) hx hb dL_areAll_547 (by decide) (fun c_62 => ?_) (fun c_62 => ?_)
                                            · skip
                                              exact absurd c_62 (by decide)
                                            · skip
                                              refine lv_iload hx hb dL_areAll_550 (lv_at hl 1 rfl) ?_
                                              refine lv_iconst (v := nI 4) hx hb dL_areAll_552 (by decide) ?_
                                              refine lv_icmp_ge (tgt := 781) hx hb dL_areAll_553 (by decide) (fun c_63 => ?_) (fun c_63 => ?_)
                                              · skip
                                                exact absurd c_63 (by decide)
                                              · skip
                                                refine lv_iload hx hb dL_areAll_556 (lv_at hl 1 rfl) ?_
                                                refine lv_if_ne (tgt := 565) hx hb dL_areAll_558 (by decide) (fun c_64 => ?_) (fun c_64 => ?_)
                                                · skip
                                                  exact absurd (by decide) c_64
                                                · skip
                                                  refine lv_iconst (v := nI 1) hx hb dL_areAll_561 (by decide) ?_
                                                  refine lv_goto (tgt := 566) hx hb dL_areAll_562 (by decide) ?_
                                                  refine lv_iload hx hb dL_areAll_566 (lv_at hl 13 rfl) ?_
                                                  refine lv_iload hx hb dL_areAll_568 (lv_at hl 16 rfl) ?_
                                                  refine lv_ishr hx hb dL_areAll_570 ?_
                                                  refine lv_iconst (v := nI 1) hx hb dL_areAll_571 (by decide) ?_
                                                  refine lv_iand hx hb dL_areAll_572 ?_
                                                  refine lv_eqi (y := nI 1) (by rw [sb_N _ hm1 p (by omega), y2]) ?_
                                                  refine lv_iconst (v := nI 1) hx hb dL_areAll_573 (by decide) ?_
                                                  refine lv_icmp_ne (tgt := 581) hx hb dL_areAll_574 (by decide) (fun c_65 => ?_) (fun c_65 => ?_)
                                                  · skip
                                                    exact absurd (by decide) c_65
                                                  · skip
                                                    refine lv_iconst (v := nI 1) hx hb dL_areAll_577 (by decide) ?_
                                                    refine lv_goto (tgt := 582) hx hb dL_areAll_578 (by decide) ?_
                                                    refine lv_icmp_ne (tgt := 781) hx hb dL_areAll_582 (by decide) (fun c_66 => ?_) (fun c_66 => ?_)
                                                    · skip
                                                      exact absurd (by decide) c_66
                                                    · skip
                                                      refine lv_iload hx hb dL_areAll_585 (lv_at hl 1 rfl) ?_
                                                      refine lv_iconst (v := nI 1) hx hb dL_areAll_587 (by decide) ?_
                                                      refine lv_icmp_ne (tgt := 595) hx hb dL_areAll_588 (by decide) (fun c_67 => ?_) (fun c_67 => ?_)
                                                      · skip
                                                        refine lv_iconst (v := nI 0) hx hb dL_areAll_595 (by decide) ?_
                                                        refine lv_iload_n hx hb dL_areAll_596 rfl (lv_at hl 5 rfl) ?_
                                                        refine lv_iload hx hb dL_areAll_597 (lv_at hl 16 rfl) ?_
                                                        refine lv_ishr hx hb dL_areAll_599 ?_
                                                        refine lv_iconst (v := nI 1) hx hb dL_areAll_600 (by decide) ?_
                                                        refine lv_iand hx hb dL_areAll_601 ?_
                                                        refine lv_eqi (y := nI 0) (by rw [sb_N _ b.dk p (by omega), y3]) ?_
                                                        refine lv_iconst (v := nI 1) hx hb dL_areAll_602 (by decide) ?_
                                                        refine lv_icmp_ne (tgt := 610) hx hb dL_areAll_603 (by decide) (fun c_68 => ?_) (fun c_68 => ?_)
                                                        · skip
                                                          refine lv_iconst (v := nI 0) hx hb dL_areAll_610 (by decide) ?_
                                                          refine lv_icmp_ne (tgt := 781) hx hb dL_areAll_611 (by decide) (fun c_69 => ?_) (fun c_69 => ?_)
                                                          · skip
                                                            exact absurd (by decide) c_69
                                                          · skip
                                                            refine lv_iload hx hb dL_areAll_614 (lv_at hl 1 rfl) ?_
                                                            refine lv_iconst (v := nI 2) hx hb dL_areAll_616 (by decide) ?_
                                                            refine lv_icmp_ne (tgt := 657) hx hb dL_areAll_617 (by decide) (fun c_70 => ?_) (fun c_70 => ?_)
                                                            · skip
                                                              refine lv_iload hx hb dL_areAll_657 (lv_at hl 1 rfl) ?_
                                                              refine lv_iconst (v := nI 3) hx hb dL_areAll_659 (by decide) ?_
                                                              refine lv_icmp_ne (tgt := 690) hx hb dL_areAll_660 (by decide) (fun c_71 => ?_) (fun c_71 => ?_)
                                                              · skip
                                                                refine lv_iload hx hb dL_areAll_690 (lv_at hl 0 rfl) ?_
                                                                refine lv_bipush (v := (-6)) hx hb dL_areAll_692 (by decide) ?_
                                                                refine lv_icmp_eq (tgt := 709) hx hb dL_areAll_694 (by decide) (fun c_72 => ?_) (fun c_72 => ?_)
                                                                · skip
                                                                  refine lv_iload hx hb dL_areAll_709 (lv_at hl 0 rfl) ?_
                                                                  refine lv_bipush (v := (-6)) hx hb dL_areAll_711 (by decide) ?_
                                                                  refine lv_icmp_eq (tgt := 720) hx hb dL_areAll_713 (by decide) (fun c_73 => ?_) (fun c_73 => ?_)
                                                                  · skip
                                                                    refine lv_iconst (v := nI 0) hx hb dL_areAll_720 (by decide) ?_
                                                                    refine lv_iload hx hb dL_areAll_721 (lv_at hl 14 rfl) ?_
                                                                    refine lv_iload hx hb dL_areAll_723 (lv_at hl 16 rfl) ?_
                                                                    refine lv_ishr hx hb dL_areAll_725 ?_
                                                                    refine lv_iconst (v := nI 1) hx hb dL_areAll_726 (by decide) ?_
                                                                    refine lv_iand hx hb dL_areAll_727 ?_
                                                                    refine lv_eqi (y := nI 0) (by rw [sb_N _ hp1 p (by omega), x2]) ?_
                                                                    refine lv_iconst (v := nI 1) hx hb dL_areAll_728 (by decide) ?_
                                                                    refine lv_icmp_ne (tgt := 736) hx hb dL_areAll_729 (by decide) (fun c_74 => ?_) (fun c_74 => ?_)
                                                                    · skip
                                                                      refine lv_iconst (v := nI 0) hx hb dL_areAll_736 (by decide) ?_
                                                                      refine lv_icmp_ne (tgt := 781) hx hb dL_areAll_737 (by decide) (fun c_75 => ?_) (fun c_75 => ?_)
                                                                      · skip
                                                                        exact absurd (by decide) c_75
                                                                      · skip
                                                                        refine lv_aload_n hx hb dL_areAll_740 rfl (lv_at hl 2 rfl) ?_
                                                                        refine lv_iload hx hb dL_areAll_741 (lv_at hl 16 rfl) ?_
                                                                        refine lv_bipush (v := nI 6) hx hb dL_areAll_743 (by decide) ?_
                                                                        refine h_op (st := []) C hS hP hD hl.1 (k_puddle (p := p) (by omega) (q := 6) (by decide)) gL_areAll_X4_puddle rfl hd_puddle ⟨Nat.le_of_ble_eq_true rfl, Nat.le_of_ble_eq_true rfl⟩ rfl rfl (Nat.le_of_ble_eq_true rfl) dL_areAll_745 ⟨Nat.le_of_ble_eq_true rfl, Nat.le_of_ble_eq_true rfl⟩ (fun H locs hP hD hS => ?_)
                                                                        refine lv_eqi (y := nI (hldN N p)) (e_p6 h b (p := p) (by omega)) ?_
                                                                        refine lv_iload hx hb dL_areAll_748 (lv_at hl 12 rfl) ?_
                                                                        refine lv_ishr hx hb dL_areAll_750 ?_
                                                                        refine lv_iconst (v := nI 1) hx hb dL_areAll_751 (by decide) ?_
                                                                        refine lv_iand hx hb dL_areAll_752 ?_
                                                                        refine lv_eqi (y := nI 0) (by rw [sb_N _ (by omega) w (by omega), x3]) ?_
                                                                        refine lv_iconst (v := nI 1) hx hb dL_areAll_753 (by decide) ?_
                                                                        refine lv_icmp_ne (tgt := 761) hx hb dL_areAll_754 (by decide) (fun c_76 => ?_) (fun c_76 => ?_)
                                                                        · skip
                                                                          refine lv_iconst (v := nI 0) hx hb dL_areAll_761 (by decide) ?_
                                                                          refine lv_iload hx hb dL_areAll_762 (lv_at hl 0 rfl) ?_
                                                                          refine lv_bipush (v := (-6)) hx hb dL_areAll_764 (by decide) ?_
                                                                          refine lv_icmp_eq (tgt := 773) hx hb dL_areAll_766 (by decide) (fun c_77 => ?_) (fun c_77 => ?_)
                                                                          · skip
                                                                            refine lv_iconst (v := nI 0) hx hb dL_areAll_773 (by decide) ?_
                                                                            refine lv_icmp_ne (tgt := 781) hx hb dL_areAll_774 (by decide) (fun c_78 => ?_) (fun c_78 => ?_)
                                                                            · skip
                                                                              exact absurd (by decide) c_78
                                                                            · skip
                                                                              refine lv_iconst (v := nI 1) hx hb dL_areAll_777 (by decide) ?_
                                                                              refine lv_goto (tgt := 782) hx hb dL_areAll_778 (by decide) ?_
                                                                              refine lv_istore (lv' := [(6, .int (nI 1)), (17, .int (-6)), (16, .int (nI 0)), (0, .ref B.1.1), (1, .int (nI (snN (n_wa N) n12))), (2, .int (nI (n_fz N))), (3, .int (nI (n_dk N))), (4, .int (smD (s_cr v.1) n12)), (5, .int (nI (snN (fun p => popN (hldN N p) 12) n12))), (7, .int (nI ((snN (n_ow N) w) + (n_ow N w)))), (8, .int ((smD (s_pa v.1) w) + (s_pa v.1 w))), (9, .int ((smD (s_cb v.1) w) + (s_cb v.1 w))), (10, .int (nI ((snN (fun w => popN (perN N w) 12) w) + (popN (perN N w) 12)))), (11, .int (nI w)), (12, .int (nI (mayN N w))), (13, .int (nI (perN N w))), (15, .int (nI p))]) hx hb dL_areAll_782 hl (by decide) rfl (fun ls hl => ?_)
                                                                              refine lv_iinc (v := nI (p + 1)) (lv' := [(15, .int (nI (p + 1))), (6, .int (nI 1)), (17, .int (-6)), (16, .int (nI 0)), (0, .ref B.1.1), (1, .int (nI (snN (n_wa N) n12))), (2, .int (nI (n_fz N))), (3, .int (nI (n_dk N))), (4, .int (smD (s_cr v.1) n12)), (5, .int (nI (snN (fun p => popN (hldN N p) 12) n12))), (7, .int (nI ((snN (n_ow N) w) + (n_ow N w)))), (8, .int ((smD (s_pa v.1) w) + (s_pa v.1 w))), (9, .int ((smD (s_cb v.1) w) + (s_cb v.1 w))), (10, .int (nI ((snN (fun w => popN (perN N w) 12) w) + (popN (perN N w) 12)))), (11, .int (nI w)), (12, .int (nI (mayN N w))), (13, .int (nI (perN N w)))]) hx hb dL_areAll_784 hl (k := 16) rfl (nI_1 _) (by decide) rfl (fun ls hl => ?_)
                                                                              refine lv_goto (tgt := 513) hx hb dL_areAll_787 (by decide) ?_
                                                                              exact ih (p + 1) (by omega) _ _ _ hP (D_of hD rfl) hS (lv_sub hl [4, 5, 6, 7, 8, 9, 10, 11, 12, 13, 14, 15, 16, 1, 0] rfl)
                                                                          · skip
                                                                            exact absurd (by decide) c_77
                                                                        · skip
                                                                          exact absurd c_76 (by decide)
                                                                    · skip
                                                                      exact absurd c_74 (by decide)
                                                                  · skip
                                                                    exact absurd (by decide) c_73
                                                                · skip
                                                                  exact absurd (by decide) c_72
                                                              · skip
                                                                exact absurd c_71 (by decide)
                                                            · skip
                                                              exact absurd c_70 (by decide)
                                                        · skip
                                                          exact absurd c_68 (by decide)
                                                      · skip
                                                        exact absurd c_67 (by decide)
                                          · skip
                                            refine lv_aload_n hx hb dL_areAll_525 rfl (lv_at hl 0 rfl) ?_
                                            refine lv_iload hx hb dL_areAll_526 (lv_at hl 10 rfl) ?_
                                            refine lv_iload hx hb dL_areAll_528 (lv_at hl 14 rfl) ?_
                                            refine h_op (st := []) C hS hP hD hl.1 (k_why (w := w) (p := p) (by omega) (by omega)) gL_areAll_X4_why rfl hd_why ⟨Nat.le_of_ble_eq_true rfl, Nat.le_of_ble_eq_true rfl⟩ rfl rfl (Nat.le_of_ble_eq_true rfl) dL_areAll_530 ⟨Nat.le_of_ble_eq_true rfl, Nat.le_of_ble_eq_true rfl⟩ (fun H locs hP hD hS => ?_)
                                            refine lv_eqi (y := nI (whyN N w p (n_sh N w))) (e_why h b (w := w) (p := p) (by omega) (by omega)) ?_
                                            refine lv_eqi (y := nI 0) (by rw [y1]) ?_
                                            refine lv_istore (lv' := [(16, .int (nI 0)), (0, .ref B.1.1), (1, .int (nI (snN (n_wa N) n12))), (2, .int (nI (n_fz N))), (3, .int (nI (n_dk N))), (4, .int (smD (s_cr v.1) n12)), (5, .int (nI (snN (fun p => popN (hldN N p) 12) n12))), (7, .int (nI ((snN (n_ow N) w) + (n_ow N w)))), (8, .int ((smD (s_pa v.1) w) + (s_pa v.1 w))), (9, .int ((smD (s_cb v.1) w) + (s_cb v.1 w))), (10, .int (nI ((snN (fun w => popN (perN N w) 12) w) + (popN (perN N w) 12)))), (11, .int (nI w)), (12, .int (nI (mayN N w))), (13, .int (nI (perN N w))), (6, .int (nI 1)), (15, .int (nI p))]) hx hb dL_areAll_533 hl (by decide) rfl (fun ls hl => ?_)
                                            refine lv_aload_n hx hb dL_areAll_535 rfl (lv_at hl 1 rfl) ?_
                                            refine lv_iload hx hb dL_areAll_536 (lv_at hl 11 rfl) ?_
                                            refine lv_iload hx hb dL_areAll_538 (lv_at hl 15 rfl) ?_
                                            refine h_op (st := []) C hS hP hD hl.1 (k_holds (w := w) (p := p) (by omega) (by omega)) gL_areAll_X4_holds rfl hd_holds ⟨Nat.le_of_ble_eq_true rfl, Nat.le_of_ble_eq_true rfl⟩ rfl rfl (Nat.le_of_ble_eq_true rfl) dL_areAll_540 ⟨Nat.le_of_ble_eq_true rfl, Nat.le_of_ble_eq_true rfl⟩ (fun H locs hP hD hS => ?_)
                                            refine lv_eqi (y := nI (n_pd N (w * 12 + p))) (by rw [e_hold h b (w := w) (p := p) (by omega) (by omega), if_neg (by omega)]) ?_
                                            refine lv_istore (lv' := [(17, .int (nI (n_pd N (w * 12 + p)))), (16, .int (nI 0)), (0, .ref B.1.1), (1, .int (nI (snN (n_wa N) n12))), (2, .int (nI (n_fz N))), (3, .int (nI (n_dk N))), (4, .int (smD (s_cr v.1) n12)), (5, .int (nI (snN (fun p => popN (hldN N p) 12) n12))), (7, .int (nI ((snN (n_ow N) w) + (n_ow N w)))), (8, .int ((smD (s_pa v.1) w) + (s_pa v.1 w))), (9, .int ((smD (s_cb v.1) w) + (s_cb v.1 w))), (10, .int (nI ((snN (fun w => popN (perN N w) 12) w) + (popN (perN N w) 12)))), (11, .int (nI w)), (12, .int (nI (mayN N w))), (13, .int (nI (perN N w))), (6, .int (nI 1)), (15, .int (nI p))]) hx hb dL_areAll_543 hl (by decide) rfl (fun ls hl => ?_)
                                            refine lv_iload hx hb dL_areAll_545 (lv_at hl 1 rfl) ?_
                                            refine lv_if_lt (tgt := 781) hx hb dL_areAll_547 (by decide) (fun c_79 => ?_) (fun c_79 => ?_)
                                            · skip
                                              exact absurd c_79 (by decide)
                                            · skip
                                              refine lv_iload hx hb dL_areAll_550 (lv_at hl 1 rfl) ?_
                                              refine lv_iconst (v := nI 4) hx hb dL_areAll_552 (by decide) ?_
                                              refine lv_icmp_ge (tgt := 781) hx hb dL_areAll_553 (by decide) (fun c_80 => ?_) (fun c_80 => ?_)
                                              · skip
                                                exact absurd c_80 (by decide)
                                              · skip
                                                refine lv_iload hx hb dL_areAll_556 (lv_at hl 1 rfl) ?_
                                                refine lv_if_ne (tgt := 565) hx hb dL_areAll_558 (by decide) (fun c_81 => ?_) (fun c_81 => ?_)
                                                · skip
                                                  exact absurd (by decide) c_81
                                                · skip
                                                  refine lv_iconst (v := nI 1) hx hb dL_areAll_561 (by decide) ?_
                                                  refine lv_goto (tgt := 566) hx hb dL_areAll_562 (by decide) ?_
                                                  refine lv_iload hx hb dL_areAll_566 (lv_at hl 13 rfl) ?_
                                                  refine lv_iload hx hb dL_areAll_568 (lv_at hl 16 rfl) ?_
                                                  refine lv_ishr hx hb dL_areAll_570 ?_
                                                  refine lv_iconst (v := nI 1) hx hb dL_areAll_571 (by decide) ?_
                                                  refine lv_iand hx hb dL_areAll_572 ?_
                                                  refine lv_eqi (y := nI 1) (by rw [sb_N _ hm1 p (by omega), y2]) ?_
                                                  refine lv_iconst (v := nI 1) hx hb dL_areAll_573 (by decide) ?_
                                                  refine lv_icmp_ne (tgt := 581) hx hb dL_areAll_574 (by decide) (fun c_82 => ?_) (fun c_82 => ?_)
                                                  · skip
                                                    exact absurd (by decide) c_82
                                                  · skip
                                                    refine lv_iconst (v := nI 1) hx hb dL_areAll_577 (by decide) ?_
                                                    refine lv_goto (tgt := 582) hx hb dL_areAll_578 (by decide) ?_
                                                    refine lv_icmp_ne (tgt := 781) hx hb dL_areAll_582 (by decide) (fun c_83 => ?_) (fun c_83 => ?_)
                                                    · skip
                                                      exact absurd (by decide) c_83
                                                    · skip
                                                      refine lv_iload hx hb dL_areAll_585 (lv_at hl 1 rfl) ?_
                                                      refine lv_iconst (v := nI 1) hx hb dL_areAll_587 (by decide) ?_
                                                      refine lv_icmp_ne (tgt := 595) hx hb dL_areAll_588 (by decide) (fun c_84 => ?_) (fun c_84 => ?_)
                                                      · skip
                                                        refine lv_iconst (v := nI 0) hx hb dL_areAll_595 (by decide) ?_
                                                        refine lv_iload_n hx hb dL_areAll_596 rfl (lv_at hl 5 rfl) ?_
                                                        refine lv_iload hx hb dL_areAll_597 (lv_at hl 16 rfl) ?_
                                                        refine lv_ishr hx hb dL_areAll_599 ?_
                                                        refine lv_iconst (v := nI 1) hx hb dL_areAll_600 (by decide) ?_
                                                        refine lv_iand hx hb dL_areAll_601 ?_
                                                        refine lv_eqi (y := nI 0) (by rw [sb_N _ b.dk p (by omega), y3]) ?_
                                                        refine lv_iconst (v := nI 1) hx hb dL_areAll_602 (by decide) ?_
                                                        refine lv_icmp_ne (tgt := 610) hx hb dL_areAll_603 (by decide) (fun c_85 => ?_) (fun c_85 => ?_)
                                                        · skip
                                                          refine lv_iconst (v := nI 0) hx hb dL_areAll_610 (by decide) ?_
                                                          refine lv_icmp_ne (tgt := 781) hx hb dL_areAll_611 (by decide) (fun c_86 => ?_) (fun c_86 => ?_)
                                                          · skip
                                                            exact absurd (by decide) c_86
                                                          · skip
                                                            refine lv_iload hx hb dL_areAll_614 (lv_at hl 1 rfl) ?_
                                                            refine lv_iconst (v := nI 2) hx hb dL_areAll_616 (by decide) ?_
                                                            refine lv_icmp_ne (tgt := 657) hx hb dL_areAll_617 (by decide) (fun c_87 => ?_) (fun c_87 => ?_)
                                                            · skip
                                                              refine lv_iload hx hb dL_areAll_657 (lv_at hl 1 rfl) ?_
                                                              refine lv_iconst (v := nI 3) hx hb dL_areAll_659 (by decide) ?_
                                                              refine lv_icmp_ne (tgt := 690) hx hb dL_areAll_660 (by decide) (fun c_88 => ?_) (fun c_88 => ?_)
                                                              · skip
                                                                refine lv_iload hx hb dL_areAll_690 (lv_at hl 0 rfl) ?_
                                                                refine lv_bipush (v := (-6)) hx hb dL_areAll_692 (by decide) ?_
                                                                refine lv_icmp_eq (tgt := 709) hx hb dL_areAll_694 (by decide) (fun c_89 => ?_) (fun c_89 => ?_)
                                                                · skip
                                                                  exact absurd c_89 (nI_n6 (by omega))
                                                                · skip
                                                                  refine lv_iload hx hb dL_areAll_697 (lv_at hl 0 rfl) ?_
                                                                  refine lv_if_le (tgt := 781) hx hb dL_areAll_699 (by decide) (fun c_90 => ?_) (fun c_90 => ?_)
                                                                  · skip
                                                                    exact absurd c_90 (nI_ge (a := 0) (b := (n_pd N (w * 12 + p))) (by omega) (by omega))
                                                                  · skip
                                                                    refine lv_iload hx hb dL_areAll_702 (lv_at hl 0 rfl) ?_
                                                                    refine lv_bipush (v := nI 30) hx hb dL_areAll_704 (by decide) ?_
                                                                    refine lv_icmp_gt (tgt := 781) hx hb dL_areAll_706 (by decide) (fun c_91 => ?_) (fun c_91 => ?_)
                                                                    · skip
                                                                      exact absurd c_91 (nI_nlt (a := 30) (b := (n_pd N (w * 12 + p))) (by omega) (by omega))
                                                                    · skip
                                                                      refine lv_iload hx hb dL_areAll_709 (lv_at hl 0 rfl) ?_
                                                                      refine lv_bipush (v := (-6)) hx hb dL_areAll_711 (by decide) ?_
                                                                      refine lv_icmp_eq (tgt := 720) hx hb dL_areAll_713 (by decide) (fun c_92 => ?_) (fun c_92 => ?_)
                                                                      · skip
                                                                        exact absurd c_92 (nI_n6 (by omega))
                                                                      · skip
                                                                        refine lv_iconst (v := nI 1) hx hb dL_areAll_716 (by decide) ?_
                                                                        refine lv_goto (tgt := 721) hx hb dL_areAll_717 (by decide) ?_
                                                                        refine lv_iload hx hb dL_areAll_721 (lv_at hl 14 rfl) ?_
                                                                        refine lv_iload hx hb dL_areAll_723 (lv_at hl 16 rfl) ?_
                                                                        refine lv_ishr hx hb dL_areAll_725 ?_
                                                                        refine lv_iconst (v := nI 1) hx hb dL_areAll_726 (by decide) ?_
                                                                        refine lv_iand hx hb dL_areAll_727 ?_
                                                                        refine lv_eqi (y := nI 1) (by rw [sb_N _ hp1 p (by omega), x2]) ?_
                                                                        refine lv_iconst (v := nI 1) hx hb dL_areAll_728 (by decide) ?_
                                                                        refine lv_icmp_ne (tgt := 736) hx hb dL_areAll_729 (by decide) (fun c_93 => ?_) (fun c_93 => ?_)
                                                                        · skip
                                                                          exact absurd (by decide) c_93
                                                                        · skip
                                                                          refine lv_iconst (v := nI 1) hx hb dL_areAll_732 (by decide) ?_
                                                                          refine lv_goto (tgt := 737) hx hb dL_areAll_733 (by decide) ?_
                                                                          refine lv_icmp_ne (tgt := 781) hx hb dL_areAll_737 (by decide) (fun c_94 => ?_) (fun c_94 => ?_)
                                                                          · skip
                                                                            exact absurd (by decide) c_94
                                                                          · skip
                                                                            refine lv_aload_n hx hb dL_areAll_740 rfl (lv_at hl 2 rfl) ?_
                                                                            refine lv_iload hx hb dL_areAll_741 (lv_at hl 16 rfl) ?_
                                                                            refine lv_bipush (v := nI 6) hx hb dL_areAll_743 (by decide) ?_
                                                                            refine h_op (st := []) C hS hP hD hl.1 (k_puddle (p := p) (by omega) (q := 6) (by decide)) gL_areAll_X4_puddle rfl hd_puddle ⟨Nat.le_of_ble_eq_true rfl, Nat.le_of_ble_eq_true rfl⟩ rfl rfl (Nat.le_of_ble_eq_true rfl) dL_areAll_745 ⟨Nat.le_of_ble_eq_true rfl, Nat.le_of_ble_eq_true rfl⟩ (fun H locs hP hD hS => ?_)
                                                                            refine lv_eqi (y := nI (hldN N p)) (e_p6 h b (p := p) (by omega)) ?_
                                                                            refine lv_iload hx hb dL_areAll_748 (lv_at hl 12 rfl) ?_
                                                                            refine lv_ishr hx hb dL_areAll_750 ?_
                                                                            refine lv_iconst (v := nI 1) hx hb dL_areAll_751 (by decide) ?_
                                                                            refine lv_iand hx hb dL_areAll_752 ?_
                                                                            refine lv_eqi (y := nI 1) (by rw [sb_N _ (by omega) w (by omega), x3]) ?_
                                                                            refine lv_iconst (v := nI 1) hx hb dL_areAll_753 (by decide) ?_
                                                                            refine lv_icmp_ne (tgt := 761) hx hb dL_areAll_754 (by decide) (fun c_95 => ?_) (fun c_95 => ?_)
                                                                            · skip
                                                                              exact absurd (by decide) c_95
                                                                            · skip
                                                                              refine lv_iconst (v := nI 1) hx hb dL_areAll_757 (by decide) ?_
                                                                              refine lv_goto (tgt := 762) hx hb dL_areAll_758 (by decide) ?_
                                                                              refine lv_iload hx hb dL_areAll_762 (lv_at hl 0 rfl) ?_
                                                                              refine lv_bipush (v := (-6)) hx hb dL_areAll_764 (by decide) ?_
                                                                              refine lv_icmp_eq (tgt := 773) hx hb dL_areAll_766 (by decide) (fun c_96 => ?_) (fun c_96 => ?_)
                                                                              · skip
                                                                                exact absurd c_96 (nI_n6 (by omega))
                                                                              · skip
                                                                                refine lv_iconst (v := nI 1) hx hb dL_areAll_769 (by decide) ?_
                                                                                refine lv_goto (tgt := 774) hx hb dL_areAll_770 (by decide) ?_
                                                                                refine lv_icmp_ne (tgt := 781) hx hb dL_areAll_774 (by decide) (fun c_97 => ?_) (fun c_97 => ?_)
                                                                                · skip
                                                                                  exact absurd (by decide) c_97
                                                                                · skip
                                                                                  refine lv_iconst (v := nI 1) hx hb dL_areAll_777 (by decide) ?_
                                                                                  refine lv_goto (tgt := 782) hx hb dL_areAll_778 (by decide) ?_
                                                                                  refine lv_istore (lv' := [(6, .int (nI 1)), (17, .int (nI (n_pd N (w * 12 + p)))), (16, .int (nI 0)), (0, .ref B.1.1), (1, .int (nI (snN (n_wa N) n12))), (2, .int (nI (n_fz N))), (3, .int (nI (n_dk N))), (4, .int (smD (s_cr v.1) n12)), (5, .int (nI (snN (fun p => popN (hldN N p) 12) n12))), (7, .int (nI ((snN (n_ow N) w) + (n_ow N w)))), (8, .int ((smD (s_pa v.1) w) + (s_pa v.1 w))), (9, .int ((smD (s_cb v.1) w) + (s_cb v.1 w))), (10, .int (nI ((snN (fun w => popN (perN N w) 12) w) + (popN (perN N w) 12)))), (11, .int (nI w)), (12, .int (nI (mayN N w))), (13, .int (nI (perN N w))), (15, .int (nI p))]) hx hb dL_areAll_782 hl (by decide) rfl (fun ls hl => ?_)
                                                                                  refine lv_iinc (v := nI (p + 1)) (lv' := [(15, .int (nI (p + 1))), (6, .int (nI 1)), (17, .int (nI (n_pd N (w * 12 + p)))), (16, .int (nI 0)), (0, .ref B.1.1), (1, .int (nI (snN (n_wa N) n12))), (2, .int (nI (n_fz N))), (3, .int (nI (n_dk N))), (4, .int (smD (s_cr v.1) n12)), (5, .int (nI (snN (fun p => popN (hldN N p) 12) n12))), (7, .int (nI ((snN (n_ow N) w) + (n_ow N w)))), (8, .int ((smD (s_pa v.1) w) + (s_pa v.1 w))), (9, .int ((smD (s_cb v.1) w) + (s_cb v.1 w))), (10, .int (nI ((snN (fun w => popN (perN N w) 12) w) + (popN (perN N w) 12)))), (11, .int (nI w)), (12, .int (nI (mayN N w))), (13, .int (nI (perN N w)))]) hx hb dL_areAll_784 hl (k := 16) rfl (nI_1 _) (by decide) rfl (fun ls hl => ?_)
                                                                                  refine lv_goto (tgt := 513) hx hb dL_areAll_787 (by decide) ?_
                                                                                  exact ih (p + 1) (by omega) _ _ _ hP (D_of hD rfl) hS (lv_sub hl [4, 5, 6, 7, 8, 9, 10, 11, 12, 13, 14, 15, 16, 1, 0] rfl)
                                                              · skip
                                                                exact absurd c_88 (by decide)
                                                            · skip
                                                              exact absurd c_87 (by decide)
                                                        · skip
                                                          exact absurd c_85 (by decide)
                                                      · skip
                                                        exact absurd c_84 (by decide)
                                          · skip
                                            refine lv_aload_n hx hb dL_areAll_525 rfl (lv_at hl 0 rfl) ?_
                                            refine lv_iload hx hb dL_areAll_526 (lv_at hl 10 rfl) ?_
                                            refine lv_iload hx hb dL_areAll_528 (lv_at hl 14 rfl) ?_
                                            refine h_op (st := []) C hS hP hD hl.1 (k_why (w := w) (p := p) (by omega) (by omega)) gL_areAll_X4_why rfl hd_why ⟨Nat.le_of_ble_eq_true rfl, Nat.le_of_ble_eq_true rfl⟩ rfl rfl (Nat.le_of_ble_eq_true rfl) dL_areAll_530 ⟨Nat.le_of_ble_eq_true rfl, Nat.le_of_ble_eq_true rfl⟩ (fun H locs hP hD hS => ?_)
                                            refine lv_eqi (y := nI (whyN N w p (n_sh N w))) (e_why h b (w := w) (p := p) (by omega) (by omega)) ?_
                                            refine lv_eqi (y := nI 2) (by rw [y1]) ?_
                                            refine lv_istore (lv' := [(16, .int (nI 2)), (0, .ref B.1.1), (1, .int (nI (snN (n_wa N) n12))), (2, .int (nI (n_fz N))), (3, .int (nI (n_dk N))), (4, .int (smD (s_cr v.1) n12)), (5, .int (nI (snN (fun p => popN (hldN N p) 12) n12))), (7, .int (nI ((snN (n_ow N) w) + (n_ow N w)))), (8, .int ((smD (s_pa v.1) w) + (s_pa v.1 w))), (9, .int ((smD (s_cb v.1) w) + (s_cb v.1 w))), (10, .int (nI ((snN (fun w => popN (perN N w) 12) w) + (popN (perN N w) 12)))), (11, .int (nI w)), (12, .int (nI (mayN N w))), (13, .int (nI (perN N w))), (6, .int (nI 1)), (15, .int (nI p))]) hx hb dL_areAll_533 hl (by decide) rfl (fun ls hl => ?_)
                                            refine lv_aload_n hx hb dL_areAll_535 rfl (lv_at hl 1 rfl) ?_
                                            refine lv_iload hx hb dL_areAll_536 (lv_at hl 11 rfl) ?_
                                            refine lv_iload hx hb dL_areAll_538 (lv_at hl 15 rfl) ?_
                                            refine h_op (st := []) C hS hP hD hl.1 (k_holds (w := w) (p := p) (by omega) (by omega)) gL_areAll_X4_holds rfl hd_holds ⟨Nat.le_of_ble_eq_true rfl, Nat.le_of_ble_eq_true rfl⟩ rfl rfl (Nat.le_of_ble_eq_true rfl) dL_areAll_540 ⟨Nat.le_of_ble_eq_true rfl, Nat.le_of_ble_eq_true rfl⟩ (fun H locs hP hD hS => ?_)
                                            refine lv_eqi (y := (-6)) (by rw [e_hold h b (w := w) (p := p) (by omega) (by omega), if_pos x1]) ?_
                                            refine lv_istore (lv' := [(17, .int (-6)), (16, .int (nI 2)), (0, .ref B.1.1), (1, .int (nI (snN (n_wa N) n12))), (2, .int (nI (n_fz N))), (3, .int (nI (n_dk N))), (4, .int (smD (s_cr v.1) n12)), (5, .int (nI (snN (fun p => popN (hldN N p) 12) n12))), (7, .int (nI ((snN (n_ow N) w) + (n_ow N w)))), (8, .int ((smD (s_pa v.1) w) + (s_pa v.1 w))), (9, .int ((smD (s_cb v.1) w) + (s_cb v.1 w))), (10, .int (nI ((snN (fun w => popN (perN N w) 12) w) + (popN (perN N w) 12)))), (11, .int (nI w)), (12, .int (nI (mayN N w))), (13, .int (nI (perN N w))), (6, .int (nI 1)), (15, .int (nI p))]) hx hb dL_areAll_543 hl (by decide) rfl (fun ls hl => ?_)
                                            refine lv_iload hx hb dL_areAll_545 (lv_at hl 1 rfl) ?_
                                            refine lv_if_lt (tgt := 781) hx hb dL_areAll_547 (by decide) (fun c_98 => ?_) (fun c_98 => ?_)
                                            · skip
                                              exact absurd c_98 (by decide)
                                            · skip
                                              refine lv_iload hx hb dL_areAll_550 (lv_at hl 1 rfl) ?_
                                              refine lv_iconst (v := nI 4) hx hb dL_areAll_552 (by decide) ?_
                                              refine lv_icmp_ge (tgt := 781) hx hb dL_areAll_553 (by decide) (fun c_99 => ?_) (fun c_99 => ?_)
                                              · skip
                                                exact absurd c_99 (by decide)
                                              · skip
                                                refine lv_iload hx hb dL_areAll_556 (lv_at hl 1 rfl) ?_
                                                refine lv_if_ne (tgt := 565) hx hb dL_areAll_558 (by decide) (fun c_100 => ?_) (fun c_100 => ?_)
                                                · skip
                                                  refine lv_iconst (v := nI 0) hx hb dL_areAll_565 (by decide) ?_
                                                  refine lv_iload hx hb dL_areAll_566 (lv_at hl 13 rfl) ?_
                                                  refine lv_iload hx hb dL_areAll_568 (lv_at hl 16 rfl) ?_
                                                  refine lv_ishr hx hb dL_areAll_570 ?_
                                                  refine lv_iconst (v := nI 1) hx hb dL_areAll_571 (by decide) ?_
                                                  refine lv_iand hx hb dL_areAll_572 ?_
                                                  refine lv_eqi (y := nI 0) (by rw [sb_N _ hm1 p (by omega), y2]) ?_
                                                  refine lv_iconst (v := nI 1) hx hb dL_areAll_573 (by decide) ?_
                                                  refine lv_icmp_ne (tgt := 581) hx hb dL_areAll_574 (by decide) (fun c_101 => ?_) (fun c_101 => ?_)
                                                  · skip
                                                    refine lv_iconst (v := nI 0) hx hb dL_areAll_581 (by decide) ?_
                                                    refine lv_icmp_ne (tgt := 781) hx hb dL_areAll_582 (by decide) (fun c_102 => ?_) (fun c_102 => ?_)
                                                    · skip
                                                      exact absurd (by decide) c_102
                                                    · skip
                                                      refine lv_iload hx hb dL_areAll_585 (lv_at hl 1 rfl) ?_
                                                      refine lv_iconst (v := nI 1) hx hb dL_areAll_587 (by decide) ?_
                                                      refine lv_icmp_ne (tgt := 595) hx hb dL_areAll_588 (by decide) (fun c_103 => ?_) (fun c_103 => ?_)
                                                      · skip
                                                        refine lv_iconst (v := nI 0) hx hb dL_areAll_595 (by decide) ?_
                                                        refine lv_iload_n hx hb dL_areAll_596 rfl (lv_at hl 5 rfl) ?_
                                                        refine lv_iload hx hb dL_areAll_597 (lv_at hl 16 rfl) ?_
                                                        refine lv_ishr hx hb dL_areAll_599 ?_
                                                        refine lv_iconst (v := nI 1) hx hb dL_areAll_600 (by decide) ?_
                                                        refine lv_iand hx hb dL_areAll_601 ?_
                                                        refine lv_eqi (y := nI 0) (by rw [sb_N _ b.dk p (by omega), y3]) ?_
                                                        refine lv_iconst (v := nI 1) hx hb dL_areAll_602 (by decide) ?_
                                                        refine lv_icmp_ne (tgt := 610) hx hb dL_areAll_603 (by decide) (fun c_104 => ?_) (fun c_104 => ?_)
                                                        · skip
                                                          refine lv_iconst (v := nI 0) hx hb dL_areAll_610 (by decide) ?_
                                                          refine lv_icmp_ne (tgt := 781) hx hb dL_areAll_611 (by decide) (fun c_105 => ?_) (fun c_105 => ?_)
                                                          · skip
                                                            exact absurd (by decide) c_105
                                                          · skip
                                                            refine lv_iload hx hb dL_areAll_614 (lv_at hl 1 rfl) ?_
                                                            refine lv_iconst (v := nI 2) hx hb dL_areAll_616 (by decide) ?_
                                                            refine lv_icmp_ne (tgt := 657) hx hb dL_areAll_617 (by decide) (fun c_106 => ?_) (fun c_106 => ?_)
                                                            · skip
                                                              exact absurd (by decide) c_106
                                                            · skip
                                                              refine lv_aload_n hx hb dL_areAll_620 rfl (lv_at hl 2 rfl) ?_
                                                              refine lv_iload hx hb dL_areAll_621 (lv_at hl 16 rfl) ?_
                                                              refine lv_iconst (v := nI 2) hx hb dL_areAll_623 (by decide) ?_
                                                              refine h_op (st := []) C hS hP hD hl.1 (k_puddle (p := p) (by omega) (q := 2) (by decide)) gL_areAll_X4_puddle rfl hd_puddle ⟨Nat.le_of_ble_eq_true rfl, Nat.le_of_ble_eq_true rfl⟩ rfl rfl (Nat.le_of_ble_eq_true rfl) dL_areAll_624 ⟨Nat.le_of_ble_eq_true rfl, Nat.le_of_ble_eq_true rfl⟩ (fun H locs hP hD hS => ?_)
                                                              refine lv_eqi (y := nI (n_wa N p / 5)) (e_p2 h b (p := p) (by omega)) ?_
                                                              refine lv_iconst (v := nI 2) hx hb dL_areAll_627 (by decide) ?_
                                                              refine lv_aload_n hx hb dL_areAll_628 rfl (lv_at hl 2 rfl) ?_
                                                              refine lv_iload hx hb dL_areAll_629 (lv_at hl 12 rfl) ?_
                                                              refine lv_iconst (v := nI 0) hx hb dL_areAll_631 (by decide) ?_
                                                              refine h_op (st := [.int (nI 2), .int (nI (n_wa N p / 5))]) C hS hP hD hl.1 (k_walker (w := w) (by omega) (q := 0) (by decide)) gL_areAll_X4_walker rfl hd_walker ⟨Nat.le_of_ble_eq_true rfl, Nat.le_of_ble_eq_true rfl⟩ rfl rfl (Nat.le_of_ble_eq_true rfl) dL_areAll_632 ⟨Nat.le_of_ble_eq_true rfl, Nat.le_of_ble_eq_true rfl⟩ (fun H locs hP hD hS => ?_)
                                                              refine lv_eqi (y := nI (n_sh N w)) (e_w0 h (w := w) (by omega)) ?_
                                                              refine lv_imul hx hb dL_areAll_635 ?_
                                                              refine lv_eqi (pk_mul _ _) ?_
                                                              refine lv_iconst (v := nI 1) hx hb dL_areAll_636 (by decide) ?_
                                                              refine lv_iadd hx hb dL_areAll_637 ?_
                                                              refine lv_eqi (nI_add _ _) ?_
                                                              refine lv_icmp_le (tgt := 781) hx hb dL_areAll_638 (by decide) (fun c_107 => ?_) (fun c_107 => ?_)
                                                              · skip
                                                                exact absurd c_107 (nI_ge (a := ((2 * (n_sh N w)) + 1)) (b := (n_wa N p / 5)) (by omega) (by omega))
                                                              · skip
                                                                refine lv_iload_n hx hb dL_areAll_641 rfl (lv_at hl 4 rfl) ?_
                                                                refine lv_iload hx hb dL_areAll_642 (lv_at hl 16 rfl) ?_
                                                                refine lv_ishr hx hb dL_areAll_644 ?_
                                                                refine lv_iconst (v := nI 1) hx hb dL_areAll_645 (by decide) ?_
                                                                refine lv_iand hx hb dL_areAll_646 ?_
                                                                refine lv_eqi (y := nI 0) (by rw [sb_N _ b.fz p (by omega), y4]) ?_
                                                                refine lv_if_ne (tgt := 781) hx hb dL_areAll_647 (by decide) (fun c_108 => ?_) (fun c_108 => ?_)
                                                                · skip
                                                                  exact absurd (by decide) c_108
                                                                · skip
                                                                  refine lv_iload hx hb dL_areAll_650 (lv_at hl 0 rfl) ?_
                                                                  refine lv_bipush (v := (-6)) hx hb dL_areAll_652 (by decide) ?_
                                                                  refine lv_icmp_ne (tgt := 781) hx hb dL_areAll_654 (by decide) (fun c_109 => ?_) (fun c_109 => ?_)
                                                                  · skip
                                                                    exact absurd (by decide) c_109
                                                                  · skip
                                                                    refine lv_iload hx hb dL_areAll_657 (lv_at hl 1 rfl) ?_
                                                                    refine lv_iconst (v := nI 3) hx hb dL_areAll_659 (by decide) ?_
                                                                    refine lv_icmp_ne (tgt := 690) hx hb dL_areAll_660 (by decide) (fun c_110 => ?_) (fun c_110 => ?_)
                                                                    · skip
                                                                      refine lv_iload hx hb dL_areAll_690 (lv_at hl 0 rfl) ?_
                                                                      refine lv_bipush (v := (-6)) hx hb dL_areAll_692 (by decide) ?_
                                                                      refine lv_icmp_eq (tgt := 709) hx hb dL_areAll_694 (by decide) (fun c_111 => ?_) (fun c_111 => ?_)
                                                                      · skip
                                                                        refine lv_iload hx hb dL_areAll_709 (lv_at hl 0 rfl) ?_
                                                                        refine lv_bipush (v := (-6)) hx hb dL_areAll_711 (by decide) ?_
                                                                        refine lv_icmp_eq (tgt := 720) hx hb dL_areAll_713 (by decide) (fun c_112 => ?_) (fun c_112 => ?_)
                                                                        · skip
                                                                          refine lv_iconst (v := nI 0) hx hb dL_areAll_720 (by decide) ?_
                                                                          refine lv_iload hx hb dL_areAll_721 (lv_at hl 14 rfl) ?_
                                                                          refine lv_iload hx hb dL_areAll_723 (lv_at hl 16 rfl) ?_
                                                                          refine lv_ishr hx hb dL_areAll_725 ?_
                                                                          refine lv_iconst (v := nI 1) hx hb dL_areAll_726 (by decide) ?_
                                                                          refine lv_iand hx hb dL_areAll_727 ?_
                                                                          refine lv_eqi (y := nI 0) (by rw [sb_N _ hp1 p (by omega), x2]) ?_
                                                                          refine lv_iconst (v := nI 1) hx hb dL_areAll_728 (by decide) ?_
                                                                          refine lv_icmp_ne (tgt := 736) hx hb dL_areAll_729 (by decide) (fun c_113 => ?_) (fun c_113 => ?_)
                                                                          · skip
                                                                            refine lv_iconst (v := nI 0) hx hb dL_areAll_736 (by decide) ?_
                                                                            refine lv_icmp_ne (tgt := 781) hx hb dL_areAll_737 (by decide) (fun c_114 => ?_) (fun c_114 => ?_)
                                                                            · skip
                                                                              exact absurd (by decide) c_114
                                                                            · skip
                                                                              refine lv_aload_n hx hb dL_areAll_740 rfl (lv_at hl 2 rfl) ?_
                                                                              refine lv_iload hx hb dL_areAll_741 (lv_at hl 16 rfl) ?_
                                                                              refine lv_bipush (v := nI 6) hx hb dL_areAll_743 (by decide) ?_
                                                                              refine h_op (st := []) C hS hP hD hl.1 (k_puddle (p := p) (by omega) (q := 6) (by decide)) gL_areAll_X4_puddle rfl hd_puddle ⟨Nat.le_of_ble_eq_true rfl, Nat.le_of_ble_eq_true rfl⟩ rfl rfl (Nat.le_of_ble_eq_true rfl) dL_areAll_745 ⟨Nat.le_of_ble_eq_true rfl, Nat.le_of_ble_eq_true rfl⟩ (fun H locs hP hD hS => ?_)
                                                                              refine lv_eqi (y := nI (hldN N p)) (e_p6 h b (p := p) (by omega)) ?_
                                                                              refine lv_iload hx hb dL_areAll_748 (lv_at hl 12 rfl) ?_
                                                                              refine lv_ishr hx hb dL_areAll_750 ?_
                                                                              refine lv_iconst (v := nI 1) hx hb dL_areAll_751 (by decide) ?_
                                                                              refine lv_iand hx hb dL_areAll_752 ?_
                                                                              refine lv_eqi (y := nI 0) (by rw [sb_N _ (by omega) w (by omega), x3]) ?_
                                                                              refine lv_iconst (v := nI 1) hx hb dL_areAll_753 (by decide) ?_
                                                                              refine lv_icmp_ne (tgt := 761) hx hb dL_areAll_754 (by decide) (fun c_115 => ?_) (fun c_115 => ?_)
                                                                              · skip
                                                                                refine lv_iconst (v := nI 0) hx hb dL_areAll_761 (by decide) ?_
                                                                                refine lv_iload hx hb dL_areAll_762 (lv_at hl 0 rfl) ?_
                                                                                refine lv_bipush (v := (-6)) hx hb dL_areAll_764 (by decide) ?_
                                                                                refine lv_icmp_eq (tgt := 773) hx hb dL_areAll_766 (by decide) (fun c_116 => ?_) (fun c_116 => ?_)
                                                                                · skip
                                                                                  refine lv_iconst (v := nI 0) hx hb dL_areAll_773 (by decide) ?_
                                                                                  refine lv_icmp_ne (tgt := 781) hx hb dL_areAll_774 (by decide) (fun c_117 => ?_) (fun c_117 => ?_)
                                                                                  · skip
                                                                                    exact absurd (by decide) c_117
                                                                                  · skip
                                                                                    refine lv_iconst (v := nI 1) hx hb dL_areAll_777 (by decide) ?_
                                                                                    refine lv_goto (tgt := 782) hx hb dL_areAll_778 (by decide) ?_
                                                                                    refine lv_istore (lv' := [(6, .int (nI 1)), (17, .int (-6)), (16, .int (nI 2)), (0, .ref B.1.1), (1, .int (nI (snN (n_wa N) n12))), (2, .int (nI (n_fz N))), (3, .int (nI (n_dk N))), (4, .int (smD (s_cr v.1) n12)), (5, .int (nI (snN (fun p => popN (hldN N p) 12) n12))), (7, .int (nI ((snN (n_ow N) w) + (n_ow N w)))), (8, .int ((smD (s_pa v.1) w) + (s_pa v.1 w))), (9, .int ((smD (s_cb v.1) w) + (s_cb v.1 w))), (10, .int (nI ((snN (fun w => popN (perN N w) 12) w) + (popN (perN N w) 12)))), (11, .int (nI w)), (12, .int (nI (mayN N w))), (13, .int (nI (perN N w))), (15, .int (nI p))]) hx hb dL_areAll_782 hl (by decide) rfl (fun ls hl => ?_)
                                                                                    refine lv_iinc (v := nI (p + 1)) (lv' := [(15, .int (nI (p + 1))), (6, .int (nI 1)), (17, .int (-6)), (16, .int (nI 2)), (0, .ref B.1.1), (1, .int (nI (snN (n_wa N) n12))), (2, .int (nI (n_fz N))), (3, .int (nI (n_dk N))), (4, .int (smD (s_cr v.1) n12)), (5, .int (nI (snN (fun p => popN (hldN N p) 12) n12))), (7, .int (nI ((snN (n_ow N) w) + (n_ow N w)))), (8, .int ((smD (s_pa v.1) w) + (s_pa v.1 w))), (9, .int ((smD (s_cb v.1) w) + (s_cb v.1 w))), (10, .int (nI ((snN (fun w => popN (perN N w) 12) w) + (popN (perN N w) 12)))), (11, .int (nI w)), (12, .int (nI (mayN N w))), (13, .int (nI (perN N w)))]) hx hb dL_areAll_784 hl (k := 16) rfl (nI_1 _) (by decide) rfl (fun ls hl => ?_)
                                                                                    refine lv_goto (tgt := 513) hx hb dL_areAll_787 (by decide) ?_
                                                                                    exact ih (p + 1) (by omega) _ _ _ hP (D_of hD rfl) hS (lv_sub hl [4, 5, 6, 7, 8, 9, 10, 11, 12, 13, 14, 15, 16, 1, 0] rfl)
                                                                                · skip
                                                                                  exact absurd (by decide) c_116
                                                                              · skip
                                                                                exact absurd c_115 (by decide)
                                                                          · skip
                                                                            exact absurd c_113 (by decide)
                                                                        · skip
                                                                          exact absurd (by decide) c_112
                                                                      · skip
                                                                        exact absurd (by decide) c_111
                                                                    · skip
                                                                      exact absurd c_110 (by decide)
                                                        · skip
                                                          exact absurd c_104 (by decide)
                                                      · skip
                                                        exact absurd c_103 (by decide)
                                                  · skip
                                                    exact absurd c_101 (by decide)
                                                · skip
                                                  exact absurd c_100 (by decide)
                                          · skip
                                            exfalso; omega
                                          · skip
                                            refine lv_aload_n hx hb dL_areAll_525 rfl (lv_at hl 0 rfl) ?_
                                            refine lv_iload hx hb dL_areAll_526 (lv_at hl 10 rfl) ?_
                                            refine lv_iload hx hb dL_areAll_528 (lv_at hl 14 rfl) ?_
                                            refine h_op (st := []) C hS hP hD hl.1 (k_why (w := w) (p := p) (by omega) (by omega)) gL_areAll_X4_why rfl hd_why ⟨Nat.le_of_ble_eq_true rfl, Nat.le_of_ble_eq_true rfl⟩ rfl rfl (Nat.le_of_ble_eq_true rfl) dL_areAll_530 ⟨Nat.le_of_ble_eq_true rfl, Nat.le_of_ble_eq_true rfl⟩ (fun H locs hP hD hS => ?_)
                                            refine lv_eqi (y := nI (whyN N w p (n_sh N w))) (e_why h b (w := w) (p := p) (by omega) (by omega)) ?_
                                            refine lv_eqi (y := nI 3) (by rw [y1]) ?_
                                            refine lv_istore (lv' := [(16, .int (nI 3)), (0, .ref B.1.1), (1, .int (nI (snN (n_wa N) n12))), (2, .int (nI (n_fz N))), (3, .int (nI (n_dk N))), (4, .int (smD (s_cr v.1) n12)), (5, .int (nI (snN (fun p => popN (hldN N p) 12) n12))), (7, .int (nI ((snN (n_ow N) w) + (n_ow N w)))), (8, .int ((smD (s_pa v.1) w) + (s_pa v.1 w))), (9, .int ((smD (s_cb v.1) w) + (s_cb v.1 w))), (10, .int (nI ((snN (fun w => popN (perN N w) 12) w) + (popN (perN N w) 12)))), (11, .int (nI w)), (12, .int (nI (mayN N w))), (13, .int (nI (perN N w))), (6, .int (nI 1)), (15, .int (nI p))]) hx hb dL_areAll_533 hl (by decide) rfl (fun ls hl => ?_)
                                            refine lv_aload_n hx hb dL_areAll_535 rfl (lv_at hl 1 rfl) ?_
                                            refine lv_iload hx hb dL_areAll_536 (lv_at hl 11 rfl) ?_
                                            refine lv_iload hx hb dL_areAll_538 (lv_at hl 15 rfl) ?_
                                            refine h_op (st := []) C hS hP hD hl.1 (k_holds (w := w) (p := p) (by omega) (by omega)) gL_areAll_X4_holds rfl hd_holds ⟨Nat.le_of_ble_eq_true rfl, Nat.le_of_ble_eq_true rfl⟩ rfl rfl (Nat.le_of_ble_eq_true rfl) dL_areAll_540 ⟨Nat.le_of_ble_eq_true rfl, Nat.le_of_ble_eq_true rfl⟩ (fun H locs hP hD hS => ?_)
                                            refine lv_eqi (y := (-6)) (by rw [e_hold h b (w := w) (p := p) (by omega) (by omega), if_pos x1]) ?_
                                            refine lv_istore (lv' := [(17, .int (-6)), (16, .int (nI 3)), (0, .ref B.1.1), (1, .int (nI (snN (n_wa N) n12))), (2, .int (nI (n_fz N))), (3, .int (nI (n_dk N))), (4, .int (smD (s_cr v.1) n12)), (5, .int (nI (snN (fun p => popN (hldN N p) 12) n12))), (7, .int (nI ((snN (n_ow N) w) + (n_ow N w)))), (8, .int ((smD (s_pa v.1) w) + (s_pa v.1 w))), (9, .int ((smD (s_cb v.1) w) + (s_cb v.1 w))), (10, .int (nI ((snN (fun w => popN (perN N w) 12) w) + (popN (perN N w) 12)))), (11, .int (nI w)), (12, .int (nI (mayN N w))), (13, .int (nI (perN N w))), (6, .int (nI 1)), (15, .int (nI p))]) hx hb dL_areAll_543 hl (by decide) rfl (fun ls hl => ?_)
                                            refine lv_iload hx hb dL_areAll_545 (lv_at hl 1 rfl) ?_
                                            refine lv_if_lt (tgt := 781) hx hb dL_areAll_547 (by decide) (fun c_118 => ?_) (fun c_118 => ?_)
                                            · skip
                                              exact absurd c_118 (by decide)
                                            · skip
                                              refine lv_iload hx hb dL_areAll_550 (lv_at hl 1 rfl) ?_
                                              refine lv_iconst (v := nI 4) hx hb dL_areAll_552 (by decide) ?_
                                              refine lv_icmp_ge (tgt := 781) hx hb dL_areAll_553 (by decide) (fun c_119 => ?_) (fun c_119 => ?_)
                                              · skip
                                                exact absurd c_119 (by decide)
                                              · skip
                                                refine lv_iload hx hb dL_areAll_556 (lv_at hl 1 rfl) ?_
                                                refine lv_if_ne (tgt := 565) hx hb dL_areAll_558 (by decide) (fun c_120 => ?_) (fun c_120 => ?_)
                                                · skip
                                                  refine lv_iconst (v := nI 0) hx hb dL_areAll_565 (by decide) ?_
                                                  refine lv_iload hx hb dL_areAll_566 (lv_at hl 13 rfl) ?_
                                                  refine lv_iload hx hb dL_areAll_568 (lv_at hl 16 rfl) ?_
                                                  refine lv_ishr hx hb dL_areAll_570 ?_
                                                  refine lv_iconst (v := nI 1) hx hb dL_areAll_571 (by decide) ?_
                                                  refine lv_iand hx hb dL_areAll_572 ?_
                                                  refine lv_eqi (y := nI 0) (by rw [sb_N _ hm1 p (by omega), y2]) ?_
                                                  refine lv_iconst (v := nI 1) hx hb dL_areAll_573 (by decide) ?_
                                                  refine lv_icmp_ne (tgt := 581) hx hb dL_areAll_574 (by decide) (fun c_121 => ?_) (fun c_121 => ?_)
                                                  · skip
                                                    refine lv_iconst (v := nI 0) hx hb dL_areAll_581 (by decide) ?_
                                                    refine lv_icmp_ne (tgt := 781) hx hb dL_areAll_582 (by decide) (fun c_122 => ?_) (fun c_122 => ?_)
                                                    · skip
                                                      exact absurd (by decide) c_122
                                                    · skip
                                                      refine lv_iload hx hb dL_areAll_585 (lv_at hl 1 rfl) ?_
                                                      refine lv_iconst (v := nI 1) hx hb dL_areAll_587 (by decide) ?_
                                                      refine lv_icmp_ne (tgt := 595) hx hb dL_areAll_588 (by decide) (fun c_123 => ?_) (fun c_123 => ?_)
                                                      · skip
                                                        refine lv_iconst (v := nI 0) hx hb dL_areAll_595 (by decide) ?_
                                                        refine lv_iload_n hx hb dL_areAll_596 rfl (lv_at hl 5 rfl) ?_
                                                        refine lv_iload hx hb dL_areAll_597 (lv_at hl 16 rfl) ?_
                                                        refine lv_ishr hx hb dL_areAll_599 ?_
                                                        refine lv_iconst (v := nI 1) hx hb dL_areAll_600 (by decide) ?_
                                                        refine lv_iand hx hb dL_areAll_601 ?_
                                                        refine lv_eqi (y := nI 0) (by rw [sb_N _ b.dk p (by omega), y3]) ?_
                                                        refine lv_iconst (v := nI 1) hx hb dL_areAll_602 (by decide) ?_
                                                        refine lv_icmp_ne (tgt := 610) hx hb dL_areAll_603 (by decide) (fun c_124 => ?_) (fun c_124 => ?_)
                                                        · skip
                                                          refine lv_iconst (v := nI 0) hx hb dL_areAll_610 (by decide) ?_
                                                          refine lv_icmp_ne (tgt := 781) hx hb dL_areAll_611 (by decide) (fun c_125 => ?_) (fun c_125 => ?_)
                                                          · skip
                                                            exact absurd (by decide) c_125
                                                          · skip
                                                            refine lv_iload hx hb dL_areAll_614 (lv_at hl 1 rfl) ?_
                                                            refine lv_iconst (v := nI 2) hx hb dL_areAll_616 (by decide) ?_
                                                            refine lv_icmp_ne (tgt := 657) hx hb dL_areAll_617 (by decide) (fun c_126 => ?_) (fun c_126 => ?_)
                                                            · skip
                                                              refine lv_iload hx hb dL_areAll_657 (lv_at hl 1 rfl) ?_
                                                              refine lv_iconst (v := nI 3) hx hb dL_areAll_659 (by decide) ?_
                                                              refine lv_icmp_ne (tgt := 690) hx hb dL_areAll_660 (by decide) (fun c_127 => ?_) (fun c_127 => ?_)
                                                              · skip
                                                                exact absurd (by decide) c_127
                                                              · skip
                                                                refine lv_iload_n hx hb dL_areAll_663 rfl (lv_at hl 4 rfl) ?_
                                                                refine lv_iload hx hb dL_areAll_664 (lv_at hl 16 rfl) ?_
                                                                refine lv_ishr hx hb dL_areAll_666 ?_
                                                                refine lv_iconst (v := nI 1) hx hb dL_areAll_667 (by decide) ?_
                                                                refine lv_iand hx hb dL_areAll_668 ?_
                                                                refine lv_eqi (y := nI 1) (by rw [sb_N _ b.fz p (by omega), y4]) ?_
                                                                refine lv_iconst (v := nI 1) hx hb dL_areAll_669 (by decide) ?_
                                                                refine lv_icmp_ne (tgt := 781) hx hb dL_areAll_670 (by decide) (fun c_128 => ?_) (fun c_128 => ?_)
                                                                · skip
                                                                  exact absurd (by decide) c_128
                                                                · skip
                                                                  refine lv_aload_n hx hb dL_areAll_673 rfl (lv_at hl 2 rfl) ?_
                                                                  refine lv_iload hx hb dL_areAll_674 (lv_at hl 16 rfl) ?_
                                                                  refine lv_iconst (v := nI 2) hx hb dL_areAll_676 (by decide) ?_
                                                                  refine h_op (st := []) C hS hP hD hl.1 (k_puddle (p := p) (by omega) (q := 2) (by decide)) gL_areAll_X4_puddle rfl hd_puddle ⟨Nat.le_of_ble_eq_true rfl, Nat.le_of_ble_eq_true rfl⟩ rfl rfl (Nat.le_of_ble_eq_true rfl) dL_areAll_677 ⟨Nat.le_of_ble_eq_true rfl, Nat.le_of_ble_eq_true rfl⟩ (fun H locs hP hD hS => ?_)
                                                                  refine lv_eqi (y := nI (n_wa N p / 5)) (e_p2 h b (p := p) (by omega)) ?_
                                                                  refine lv_if_le (tgt := 781) hx hb dL_areAll_680 (by decide) (fun c_129 => ?_) (fun c_129 => ?_)
                                                                  · skip
                                                                    exact absurd c_129 (nI_ge (a := 0) (b := (n_wa N p / 5)) (by omega) (by omega))
                                                                  · skip
                                                                    refine lv_iload hx hb dL_areAll_683 (lv_at hl 0 rfl) ?_
                                                                    refine lv_bipush (v := (-6)) hx hb dL_areAll_685 (by decide) ?_
                                                                    refine lv_icmp_ne (tgt := 781) hx hb dL_areAll_687 (by decide) (fun c_130 => ?_) (fun c_130 => ?_)
                                                                    · skip
                                                                      exact absurd (by decide) c_130
                                                                    · skip
                                                                      refine lv_iload hx hb dL_areAll_690 (lv_at hl 0 rfl) ?_
                                                                      refine lv_bipush (v := (-6)) hx hb dL_areAll_692 (by decide) ?_
                                                                      refine lv_icmp_eq (tgt := 709) hx hb dL_areAll_694 (by decide) (fun c_131 => ?_) (fun c_131 => ?_)
                                                                      · skip
                                                                        refine lv_iload hx hb dL_areAll_709 (lv_at hl 0 rfl) ?_
                                                                        refine lv_bipush (v := (-6)) hx hb dL_areAll_711 (by decide) ?_
                                                                        refine lv_icmp_eq (tgt := 720) hx hb dL_areAll_713 (by decide) (fun c_132 => ?_) (fun c_132 => ?_)
                                                                        · skip
                                                                          refine lv_iconst (v := nI 0) hx hb dL_areAll_720 (by decide) ?_
                                                                          refine lv_iload hx hb dL_areAll_721 (lv_at hl 14 rfl) ?_
                                                                          refine lv_iload hx hb dL_areAll_723 (lv_at hl 16 rfl) ?_
                                                                          refine lv_ishr hx hb dL_areAll_725 ?_
                                                                          refine lv_iconst (v := nI 1) hx hb dL_areAll_726 (by decide) ?_
                                                                          refine lv_iand hx hb dL_areAll_727 ?_
                                                                          refine lv_eqi (y := nI 0) (by rw [sb_N _ hp1 p (by omega), x2]) ?_
                                                                          refine lv_iconst (v := nI 1) hx hb dL_areAll_728 (by decide) ?_
                                                                          refine lv_icmp_ne (tgt := 736) hx hb dL_areAll_729 (by decide) (fun c_133 => ?_) (fun c_133 => ?_)
                                                                          · skip
                                                                            refine lv_iconst (v := nI 0) hx hb dL_areAll_736 (by decide) ?_
                                                                            refine lv_icmp_ne (tgt := 781) hx hb dL_areAll_737 (by decide) (fun c_134 => ?_) (fun c_134 => ?_)
                                                                            · skip
                                                                              exact absurd (by decide) c_134
                                                                            · skip
                                                                              refine lv_aload_n hx hb dL_areAll_740 rfl (lv_at hl 2 rfl) ?_
                                                                              refine lv_iload hx hb dL_areAll_741 (lv_at hl 16 rfl) ?_
                                                                              refine lv_bipush (v := nI 6) hx hb dL_areAll_743 (by decide) ?_
                                                                              refine h_op (st := []) C hS hP hD hl.1 (k_puddle (p := p) (by omega) (q := 6) (by decide)) gL_areAll_X4_puddle rfl hd_puddle ⟨Nat.le_of_ble_eq_true rfl, Nat.le_of_ble_eq_true rfl⟩ rfl rfl (Nat.le_of_ble_eq_true rfl) dL_areAll_745 ⟨Nat.le_of_ble_eq_true rfl, Nat.le_of_ble_eq_true rfl⟩ (fun H locs hP hD hS => ?_)
                                                                              refine lv_eqi (y := nI (hldN N p)) (e_p6 h b (p := p) (by omega)) ?_
                                                                              refine lv_iload hx hb dL_areAll_748 (lv_at hl 12 rfl) ?_
                                                                              refine lv_ishr hx hb dL_areAll_750 ?_
                                                                              refine lv_iconst (v := nI 1) hx hb dL_areAll_751 (by decide) ?_
                                                                              refine lv_iand hx hb dL_areAll_752 ?_
                                                                              refine lv_eqi (y := nI 0) (by rw [sb_N _ (by omega) w (by omega), x3]) ?_
                                                                              refine lv_iconst (v := nI 1) hx hb dL_areAll_753 (by decide) ?_
                                                                              refine lv_icmp_ne (tgt := 761) hx hb dL_areAll_754 (by decide) (fun c_135 => ?_) (fun c_135 => ?_)
                                                                              · skip
                                                                                refine lv_iconst (v := nI 0) hx hb dL_areAll_761 (by decide) ?_
                                                                                refine lv_iload hx hb dL_areAll_762 (lv_at hl 0 rfl) ?_
                                                                                refine lv_bipush (v := (-6)) hx hb dL_areAll_764 (by decide) ?_
                                                                                refine lv_icmp_eq (tgt := 773) hx hb dL_areAll_766 (by decide) (fun c_136 => ?_) (fun c_136 => ?_)
                                                                                · skip
                                                                                  refine lv_iconst (v := nI 0) hx hb dL_areAll_773 (by decide) ?_
                                                                                  refine lv_icmp_ne (tgt := 781) hx hb dL_areAll_774 (by decide) (fun c_137 => ?_) (fun c_137 => ?_)
                                                                                  · skip
                                                                                    exact absurd (by decide) c_137
                                                                                  · skip
                                                                                    refine lv_iconst (v := nI 1) hx hb dL_areAll_777 (by decide) ?_
                                                                                    refine lv_goto (tgt := 782) hx hb dL_areAll_778 (by decide) ?_
                                                                                    refine lv_istore (lv' := [(6, .int (nI 1)), (17, .int (-6)), (16, .int (nI 3)), (0, .ref B.1.1), (1, .int (nI (snN (n_wa N) n12))), (2, .int (nI (n_fz N))), (3, .int (nI (n_dk N))), (4, .int (smD (s_cr v.1) n12)), (5, .int (nI (snN (fun p => popN (hldN N p) 12) n12))), (7, .int (nI ((snN (n_ow N) w) + (n_ow N w)))), (8, .int ((smD (s_pa v.1) w) + (s_pa v.1 w))), (9, .int ((smD (s_cb v.1) w) + (s_cb v.1 w))), (10, .int (nI ((snN (fun w => popN (perN N w) 12) w) + (popN (perN N w) 12)))), (11, .int (nI w)), (12, .int (nI (mayN N w))), (13, .int (nI (perN N w))), (15, .int (nI p))]) hx hb dL_areAll_782 hl (by decide) rfl (fun ls hl => ?_)
                                                                                    refine lv_iinc (v := nI (p + 1)) (lv' := [(15, .int (nI (p + 1))), (6, .int (nI 1)), (17, .int (-6)), (16, .int (nI 3)), (0, .ref B.1.1), (1, .int (nI (snN (n_wa N) n12))), (2, .int (nI (n_fz N))), (3, .int (nI (n_dk N))), (4, .int (smD (s_cr v.1) n12)), (5, .int (nI (snN (fun p => popN (hldN N p) 12) n12))), (7, .int (nI ((snN (n_ow N) w) + (n_ow N w)))), (8, .int ((smD (s_pa v.1) w) + (s_pa v.1 w))), (9, .int ((smD (s_cb v.1) w) + (s_cb v.1 w))), (10, .int (nI ((snN (fun w => popN (perN N w) 12) w) + (popN (perN N w) 12)))), (11, .int (nI w)), (12, .int (nI (mayN N w))), (13, .int (nI (perN N w)))]) hx hb dL_areAll_784 hl (k := 16) rfl (nI_1 _) (by decide) rfl (fun ls hl => ?_)
                                                                                    refine lv_goto (tgt := 513) hx hb dL_areAll_787 (by decide) ?_
                                                                                    exact ih (p + 1) (by omega) _ _ _ hP (D_of hD rfl) hS (lv_sub hl [4, 5, 6, 7, 8, 9, 10, 11, 12, 13, 14, 15, 16, 1, 0] rfl)
                                                                                · skip
                                                                                  exact absurd (by decide) c_136
                                                                              · skip
                                                                                exact absurd c_135 (by decide)
                                                                          · skip
                                                                            exact absurd c_133 (by decide)
                                                                        · skip
                                                                          exact absurd (by decide) c_132
                                                                      · skip
                                                                        exact absurd (by decide) c_131
                                                            · skip
                                                              exact absurd c_126 (by decide)
                                                        · skip
                                                          exact absurd c_124 (by decide)
                                                      · skip
                                                        exact absurd c_123 (by decide)
                                                  · skip
                                                    exact absurd c_121 (by decide)
                                                · skip
                                                  exact absurd c_120 (by decide)
                                          · skip
                                            exfalso; omega
                                  exact loop_513 n12 0 (by omega) _ _ _ hP (D_of hD rfl) hS (lv_sub hl [8, 9, 10, 11, 12, 13, 5, 4, 3, 2, 14, 7, 6, 1, 0] rfl)
                              rcases e_ls h b (w := w) (by omega) with ⟨z2, z3⟩ | ⟨k, z4, z2, z3, z5⟩ | ⟨k, z4, z2, z3, z5⟩
                              · skip
                                rw [z2] at hl
                                refine lv_iload hx hb dL_areAll_437 (lv_at hl 4 rfl) ?_
                                refine lv_bipush (v := (-6)) hx hb dL_areAll_439 (by decide) ?_
                                refine lv_icmp_ne (tgt := 455) hx hb dL_areAll_441 (by decide) (fun c_138 => ?_) (fun c_138 => ?_)
                                · skip
                                  exact absurd (by decide) c_138
                                · skip
                                  refine lv_iload hx hb dL_areAll_444 (lv_at hl 6 rfl) ?_
                                  refine lv_sipush (v := nI 4095) hx hb dL_areAll_446 (by decide) ?_
                                  refine lv_icmp_eq (tgt := 507) hx hb dL_areAll_449 (by decide) (fun c_139 => ?_) (fun c_139 => ?_)
                                  · skip
                                    exact absurd ((nI_eq (a := (mayN N w)) (b := 4095) (by omega) (by omega)).mp c_139) (by omega)
                                  · skip
                                    refine lv_goto (tgt := 488) hx hb dL_areAll_452 (by decide) ?_
                                    exact jn_488 _ _ _ hP hD hS (lv_sub hl [0, 1, 2, 3, 5, 6, 7, 8, 9, 10, 11, 12, 13, 14] rfl)
                              · skip
                                rw [z2] at hl
                                refine lv_iload hx hb dL_areAll_437 (lv_at hl 4 rfl) ?_
                                refine lv_bipush (v := (-6)) hx hb dL_areAll_439 (by decide) ?_
                                refine lv_icmp_ne (tgt := 455) hx hb dL_areAll_441 (by decide) (fun c_140 => ?_) (fun c_140 => ?_)
                                · skip
                                  refine lv_iload hx hb dL_areAll_455 (lv_at hl 6 rfl) ?_
                                  refine lv_sipush (v := nI 4095) hx hb dL_areAll_457 (by decide) ?_
                                  refine lv_icmp_ne (tgt := 467) hx hb dL_areAll_460 (by decide) (fun c_141 => ?_) (fun c_141 => ?_)
                                  · skip
                                    exact absurd ((nI_eq (a := (mayN N w)) (b := 4095) (by omega) (by omega)).mpr (by omega)) c_141
                                  · skip
                                    refine lv_iconst (v := nI 1) hx hb dL_areAll_463 (by decide) ?_
                                    refine lv_goto (tgt := 468) hx hb dL_areAll_464 (by decide) ?_
                                    refine lv_aload_n hx hb dL_areAll_468 rfl (lv_at hl 7 rfl) ?_
                                    refine lv_iload hx hb dL_areAll_469 (lv_at hl 14 rfl) ?_
                                    refine lv_iconst (v := nI 0) hx hb dL_areAll_471 (by decide) ?_
                                    refine h_op (st := [.int (nI 1)]) C hS hP hD hl.1 (k_walker (w := w) (by omega) (q := 0) (by decide)) gL_areAll_X4_walker rfl hd_walker ⟨Nat.le_of_ble_eq_true rfl, Nat.le_of_ble_eq_true rfl⟩ rfl rfl (Nat.le_of_ble_eq_true rfl) dL_areAll_472 ⟨Nat.le_of_ble_eq_true rfl, Nat.le_of_ble_eq_true rfl⟩ (fun H locs hP hD hS => ?_)
                                    refine lv_eqi (y := nI (n_sh N w)) (e_w0 h (w := w) (by omega)) ?_
                                    refine lv_iload hx hb dL_areAll_475 (lv_at hl 4 rfl) ?_
                                    refine lv_icmp_lt (tgt := 484) hx hb dL_areAll_477 (by decide) (fun c_142 => ?_) (fun c_142 => ?_)
                                    · skip
                                      exact absurd c_142 (nI_nlt (a := (n_sh N w)) (b := k) (by omega) (by omega))
                                    · skip
                                      refine lv_iconst (v := nI 1) hx hb dL_areAll_480 (by decide) ?_
                                      refine lv_goto (tgt := 485) hx hb dL_areAll_481 (by decide) ?_
                                      refine lv_icmp_ne (tgt := 507) hx hb dL_areAll_485 (by decide) (fun c_143 => ?_) (fun c_143 => ?_)
                                      · skip
                                        exact absurd (by decide) c_143
                                      · skip
                                        exact jn_488 _ _ _ hP hD hS (lv_sub hl [0, 1, 2, 3, 5, 6, 7, 8, 9, 10, 11, 12, 13, 14] rfl)
                                · skip
                                  exact absurd c_140 (nI_n6 (by omega))
                              · skip
                                rw [z2] at hl
                                refine lv_iload hx hb dL_areAll_437 (lv_at hl 4 rfl) ?_
                                refine lv_bipush (v := (-6)) hx hb dL_areAll_439 (by decide) ?_
                                refine lv_icmp_ne (tgt := 455) hx hb dL_areAll_441 (by decide) (fun c_144 => ?_) (fun c_144 => ?_)
                                · skip
                                  refine lv_iload hx hb dL_areAll_455 (lv_at hl 6 rfl) ?_
                                  refine lv_sipush (v := nI 4095) hx hb dL_areAll_457 (by decide) ?_
                                  refine lv_icmp_ne (tgt := 467) hx hb dL_areAll_460 (by decide) (fun c_145 => ?_) (fun c_145 => ?_)
                                  · skip
                                    refine lv_iconst (v := nI 0) hx hb dL_areAll_467 (by decide) ?_
                                    refine lv_aload_n hx hb dL_areAll_468 rfl (lv_at hl 7 rfl) ?_
                                    refine lv_iload hx hb dL_areAll_469 (lv_at hl 14 rfl) ?_
                                    refine lv_iconst (v := nI 0) hx hb dL_areAll_471 (by decide) ?_
                                    refine h_op (st := [.int (nI 0)]) C hS hP hD hl.1 (k_walker (w := w) (by omega) (q := 0) (by decide)) gL_areAll_X4_walker rfl hd_walker ⟨Nat.le_of_ble_eq_true rfl, Nat.le_of_ble_eq_true rfl⟩ rfl rfl (Nat.le_of_ble_eq_true rfl) dL_areAll_472 ⟨Nat.le_of_ble_eq_true rfl, Nat.le_of_ble_eq_true rfl⟩ (fun H locs hP hD hS => ?_)
                                    refine lv_eqi (y := nI (n_sh N w)) (e_w0 h (w := w) (by omega)) ?_
                                    refine lv_iload hx hb dL_areAll_475 (lv_at hl 4 rfl) ?_
                                    refine lv_icmp_lt (tgt := 484) hx hb dL_areAll_477 (by decide) (fun c_146 => ?_) (fun c_146 => ?_)
                                    · skip
                                      refine lv_iconst (v := nI 0) hx hb dL_areAll_484 (by decide) ?_
                                      refine lv_icmp_ne (tgt := 507) hx hb dL_areAll_485 (by decide) (fun c_147 => ?_) (fun c_147 => ?_)
                                      · skip
                                        exact absurd (by decide) c_147
                                      · skip
                                        exact jn_488 _ _ _ hP hD hS (lv_sub hl [0, 1, 2, 3, 5, 6, 7, 8, 9, 10, 11, 12, 13, 14] rfl)
                                    · skip
                                      exact absurd (nI_lt (a := (n_sh N w)) (b := k) (by omega) (by omega)) c_146
                                  · skip
                                    exact absurd ((nI_eq (a := (mayN N w)) (b := 4095) (by omega) (by omega)).mp c_145) (by omega)
                                · skip
                                  exact absurd c_144 (nI_n6 (by omega))
        exact loop_288 n6 0 (by omega) _ _ _ hP (D_of hD rfl) hS (by rw [show (nI (snN (n_ow N) 0)) = (nI 0) from by rfl, show (smD (s_pa v.1) 0) = (nI 0) from by rfl, show (smD (s_cb v.1) 0) = (nI 0) from by rfl, show (nI (snN (fun w => popN (perN N w) 12) 0)) = (nI 0) from by rfl]; exact lv_sub hl [5, 6, 7, 8, 9, 10, 11, 4, 3, 2, 1, 0] rfl)
      · skip
        exact absurd (nI_le (a := 12) (b := n12) (by omega) (by omega)) c_1
    | succ n ih =>
      intro p hi H locs ls hP hD hS hl
      have hlt : p < n12 := by omega
      refine lv_iload hx hb dL_areAll_18 (lv_at hl 7 rfl) ?_
      refine lv_bipush (v := nI 12) hx hb dL_areAll_20 (by decide) ?_
      refine lv_icmp_ge (tgt := 273) hx hb dL_areAll_22 (by decide) (fun c_148 => ?_) (fun c_148 => ?_)
      · skip
        exact absurd c_148 (nI_ge (a := p) (b := 12) (by omega) (by omega))
      · skip
        refine lv_iload hx hb dL_areAll_25 (lv_at hl 6 rfl) ?_
        refine lv_if_eq (tgt := 273) hx hb dL_areAll_27 (by decide) (fun c_149 => ?_) (fun c_149 => ?_)
        · skip
          exact absurd c_149 (by decide)
        · skip
          have hwb := b.wb p (by omega)
          have hb1 := bN_le (n_fz N) p
          have hh : hldN N p < 64 := mkN_lt _ 6
          have hs1 := b.s1
          rcases e_dry h b (p := p) (by omega) with ⟨z1, z2⟩ | ⟨z1, z3, z2⟩ | ⟨z1, z3, d, z4, z5, z2⟩
          · skip
            refine lv_aload_n hx hb dL_areAll_30 rfl (lv_at hl 0 rfl) ?_
            refine lv_iload hx hb dL_areAll_31 (lv_at hl 7 rfl) ?_
            refine lv_iconst (v := nI 1) hx hb dL_areAll_33 (by decide) ?_
            refine h_op (st := []) C hS hP hD hl.1 (k_puddle (p := p) (by omega) (q := 1) (by decide)) gL_areAll_X4_puddle rfl hd_puddle ⟨Nat.le_of_ble_eq_true rfl, Nat.le_of_ble_eq_true rfl⟩ rfl rfl (Nat.le_of_ble_eq_true rfl) dL_areAll_34 ⟨Nat.le_of_ble_eq_true rfl, Nat.le_of_ble_eq_true rfl⟩ (fun H locs hP hD hS => ?_)
            refine lv_eqi (y := nI (n_wa N p)) (e_p1 h (p := p) (by omega)) ?_
            refine lv_istore (lv' := [(8, .int (nI (n_wa N p))), (0, .ref B.1.1), (1, .int (nI (snN (n_wa N) p))), (2, .int (nI (n_fz N % 2 ^ p))), (3, .int (nI (n_dk N % 2 ^ p))), (4, .int (smD (s_cr v.1) p)), (5, .int (nI (snN (fun p => popN (hldN N p) 12) p))), (6, .int (nI 1)), (7, .int (nI p))]) hx hb dL_areAll_37 hl (by decide) rfl (fun ls hl => ?_)
            refine lv_iload_n hx hb dL_areAll_39 rfl (lv_at hl 2 rfl) ?_
            refine lv_iload hx hb dL_areAll_40 (lv_at hl 0 rfl) ?_
            refine lv_iadd hx hb dL_areAll_42 ?_
            refine lv_eqi (nI_add _ _) ?_
            refine lv_istore_n (lv' := [(1, .int (nI ((snN (n_wa N) p) + (n_wa N p)))), (8, .int (nI (n_wa N p))), (0, .ref B.1.1), (2, .int (nI (n_fz N % 2 ^ p))), (3, .int (nI (n_dk N % 2 ^ p))), (4, .int (smD (s_cr v.1) p)), (5, .int (nI (snN (fun p => popN (hldN N p) 12) p))), (6, .int (nI 1)), (7, .int (nI p))]) hx hb dL_areAll_43 rfl hl (by decide) rfl (fun ls hl => ?_)
            refine lv_iload_n hx hb dL_areAll_44 rfl (lv_at hl 3 rfl) ?_
            refine lv_aload_n hx hb dL_areAll_45 rfl (lv_at hl 2 rfl) ?_
            refine lv_iload hx hb dL_areAll_46 (lv_at hl 8 rfl) ?_
            refine lv_iconst (v := nI 3) hx hb dL_areAll_48 (by decide) ?_
            refine h_op (st := [.int (nI (n_fz N % 2 ^ p))]) C hS hP hD hl.1 (k_puddle (p := p) (by omega) (q := 3) (by decide)) gL_areAll_X4_puddle rfl hd_puddle ⟨Nat.le_of_ble_eq_true rfl, Nat.le_of_ble_eq_true rfl⟩ rfl rfl (Nat.le_of_ble_eq_true rfl) dL_areAll_49 ⟨Nat.le_of_ble_eq_true rfl, Nat.le_of_ble_eq_true rfl⟩ (fun H locs hP hD hS => ?_)
            refine lv_eqi (y := nI (bN (n_fz N) p)) (e_p3 h b (p := p) (by omega)) ?_
            refine lv_iload hx hb dL_areAll_52 (lv_at hl 8 rfl) ?_
            refine lv_ishl hx hb dL_areAll_54 ?_
            refine lv_ior hx hb dL_areAll_55 ?_
            refine lv_eqi (y := nI (n_fz N % 2 ^ (p + 1))) (by exact lo_N _ b.fz p (by omega)) ?_
            refine lv_istore_n (lv' := [(2, .int (nI (n_fz N % 2 ^ (p + 1)))), (1, .int (nI ((snN (n_wa N) p) + (n_wa N p)))), (8, .int (nI (n_wa N p))), (0, .ref B.1.1), (3, .int (nI (n_dk N % 2 ^ p))), (4, .int (smD (s_cr v.1) p)), (5, .int (nI (snN (fun p => popN (hldN N p) 12) p))), (6, .int (nI 1)), (7, .int (nI p))]) hx hb dL_areAll_56 rfl hl (by decide) rfl (fun ls hl => ?_)
            refine lv_iload_n hx hb dL_areAll_57 rfl (lv_at hl 4 rfl) ?_
            refine lv_aload_n hx hb dL_areAll_58 rfl (lv_at hl 3 rfl) ?_
            refine lv_iload hx hb dL_areAll_59 (lv_at hl 8 rfl) ?_
            refine lv_iconst (v := nI 4) hx hb dL_areAll_61 (by decide) ?_
            refine h_op (st := [.int (nI (n_dk N % 2 ^ p))]) C hS hP hD hl.1 (k_puddle (p := p) (by omega) (q := 4) (by decide)) gL_areAll_X4_puddle rfl hd_puddle ⟨Nat.le_of_ble_eq_true rfl, Nat.le_of_ble_eq_true rfl⟩ rfl rfl (Nat.le_of_ble_eq_true rfl) dL_areAll_62 ⟨Nat.le_of_ble_eq_true rfl, Nat.le_of_ble_eq_true rfl⟩ (fun H locs hP hD hS => ?_)
            refine lv_eqi (y := nI (bN (n_dk N) p)) (e_p4 h b (p := p) (by omega)) ?_
            refine lv_iload hx hb dL_areAll_65 (lv_at hl 8 rfl) ?_
            refine lv_ishl hx hb dL_areAll_67 ?_
            refine lv_ior hx hb dL_areAll_68 ?_
            refine lv_eqi (y := nI (n_dk N % 2 ^ (p + 1))) (by exact lo_N _ b.dk p (by omega)) ?_
            refine lv_istore_n (lv' := [(3, .int (nI (n_dk N % 2 ^ (p + 1)))), (2, .int (nI (n_fz N % 2 ^ (p + 1)))), (1, .int (nI ((snN (n_wa N) p) + (n_wa N p)))), (8, .int (nI (n_wa N p))), (0, .ref B.1.1), (4, .int (smD (s_cr v.1) p)), (5, .int (nI (snN (fun p => popN (hldN N p) 12) p))), (6, .int (nI 1)), (7, .int (nI p))]) hx hb dL_areAll_69 rfl hl (by decide) rfl (fun ls hl => ?_)
            refine lv_iload hx hb dL_areAll_70 (lv_at hl 5 rfl) ?_
            refine lv_aload_n hx hb dL_areAll_72 rfl (lv_at hl 4 rfl) ?_
            refine lv_iload hx hb dL_areAll_73 (lv_at hl 8 rfl) ?_
            refine lv_iconst (v := nI 5) hx hb dL_areAll_75 (by decide) ?_
            refine h_op (st := [.int (smD (s_cr v.1) p)]) C hS hP hD hl.1 (k_puddle (p := p) (by omega) (q := 5) (by decide)) gL_areAll_X4_puddle rfl hd_puddle ⟨Nat.le_of_ble_eq_true rfl, Nat.le_of_ble_eq_true rfl⟩ rfl rfl (Nat.le_of_ble_eq_true rfl) dL_areAll_76 ⟨Nat.le_of_ble_eq_true rfl, Nat.le_of_ble_eq_true rfl⟩ (fun H locs hP hD hS => ?_)
            refine lv_eqi (y := s_cr v.1 p) (rfl) ?_
            refine lv_iadd hx hb dL_areAll_79 ?_
            refine lv_istore (lv' := [(4, .int ((smD (s_cr v.1) p) + (s_cr v.1 p))), (3, .int (nI (n_dk N % 2 ^ (p + 1)))), (2, .int (nI (n_fz N % 2 ^ (p + 1)))), (1, .int (nI ((snN (n_wa N) p) + (n_wa N p)))), (8, .int (nI (n_wa N p))), (0, .ref B.1.1), (5, .int (nI (snN (fun p => popN (hldN N p) 12) p))), (6, .int (nI 1)), (7, .int (nI p))]) hx hb dL_areAll_80 hl (by decide) rfl (fun ls hl => ?_)
            refine lv_iload hx hb dL_areAll_82 (lv_at hl 6 rfl) ?_
            refine lv_aload_n hx hb dL_areAll_84 rfl (lv_at hl 5 rfl) ?_
            refine lv_iload hx hb dL_areAll_85 (lv_at hl 8 rfl) ?_
            refine lv_bipush (v := nI 6) hx hb dL_areAll_87 (by decide) ?_
            refine h_op (st := [.int (nI (snN (fun p => popN (hldN N p) 12) p))]) C hS hP hD hl.1 (k_puddle (p := p) (by omega) (q := 6) (by decide)) gL_areAll_X4_puddle rfl hd_puddle ⟨Nat.le_of_ble_eq_true rfl, Nat.le_of_ble_eq_true rfl⟩ rfl rfl (Nat.le_of_ble_eq_true rfl) dL_areAll_89 ⟨Nat.le_of_ble_eq_true rfl, Nat.le_of_ble_eq_true rfl⟩ (fun H locs hP hD hS => ?_)
            refine lv_eqi (y := nI (hldN N p)) (e_p6 h b (p := p) (by omega)) ?_
            refine h_sz (st := [.int (nI (snN (fun p => popN (hldN N p) 12) p))]) C hS hP hl.1 (c_L_size l G ca (m := (hldN N p)) (mkN_lt12 _ (by omega))) gL_areAll_L_size rfl rfl rfl hd_L_size ⟨Nat.le_of_ble_eq_true rfl, Nat.le_of_ble_eq_true rfl⟩ rfl rfl (Nat.le_of_ble_eq_true rfl) dL_areAll_92 ⟨Nat.le_of_ble_eq_true rfl, Nat.le_of_ble_eq_true rfl⟩ (fun H locs hP hS => ?_)
            refine lv_iadd hx hb dL_areAll_95 ?_
            refine lv_eqi (nI_add _ _) ?_
            refine lv_istore (lv' := [(5, .int (nI ((snN (fun p => popN (hldN N p) 12) p) + (popN (hldN N p) 12)))), (4, .int ((smD (s_cr v.1) p) + (s_cr v.1 p))), (3, .int (nI (n_dk N % 2 ^ (p + 1)))), (2, .int (nI (n_fz N % 2 ^ (p + 1)))), (1, .int (nI ((snN (n_wa N) p) + (n_wa N p)))), (8, .int (nI (n_wa N p))), (0, .ref B.1.1), (6, .int (nI 1)), (7, .int (nI p))]) hx hb dL_areAll_96 hl (by decide) rfl (fun ls hl => ?_)
            refine lv_aload_n hx hb dL_areAll_98 rfl (lv_at hl 6 rfl) ?_
            refine lv_iload hx hb dL_areAll_99 (lv_at hl 8 rfl) ?_
            refine h_op (st := []) C hS hP hD hl.1 (k_untilDry (p := p) (by omega)) gL_areAll_X4_untilDry rfl hd_untilDry ⟨Nat.le_of_ble_eq_true rfl, Nat.le_of_ble_eq_true rfl⟩ rfl rfl (Nat.le_of_ble_eq_true rfl) dL_areAll_101 ⟨Nat.le_of_ble_eq_true rfl, Nat.le_of_ble_eq_true rfl⟩ (fun H locs hP hD hS => ?_)
            refine lv_eqi (y := nI 0) (by exact z2) ?_
            refine lv_istore (lv' := [(9, .int (nI 0)), (5, .int (nI ((snN (fun p => popN (hldN N p) 12) p) + (popN (hldN N p) 12)))), (4, .int ((smD (s_cr v.1) p) + (s_cr v.1 p))), (3, .int (nI (n_dk N % 2 ^ (p + 1)))), (2, .int (nI (n_fz N % 2 ^ (p + 1)))), (1, .int (nI ((snN (n_wa N) p) + (n_wa N p)))), (8, .int (nI (n_wa N p))), (0, .ref B.1.1), (6, .int (nI 1)), (7, .int (nI p))]) hx hb dL_areAll_104 hl (by decide) rfl (fun ls hl => ?_)
            refine lv_iload hx hb dL_areAll_106 (lv_at hl 6 rfl) ?_
            refine lv_if_lt (tgt := 264) hx hb dL_areAll_108 (by decide) (fun c_150 => ?_) (fun c_150 => ?_)
            · skip
              exact absurd c_150 (nI_nlt (a := (n_wa N p)) (b := 0) (by omega) (by omega))
            · skip
              refine lv_iload hx hb dL_areAll_111 (lv_at hl 6 rfl) ?_
              refine lv_aload_n hx hb dL_areAll_113 rfl (lv_at hl 7 rfl) ?_
              refine lv_iload hx hb dL_areAll_114 (lv_at hl 9 rfl) ?_
              refine lv_iconst (v := nI 0) hx hb dL_areAll_116 (by decide) ?_
              refine h_op (st := [.int (nI (n_wa N p))]) C hS hP hD hl.1 (k_puddle (p := p) (by omega) (q := 0) (by decide)) gL_areAll_X4_puddle rfl hd_puddle ⟨Nat.le_of_ble_eq_true rfl, Nat.le_of_ble_eq_true rfl⟩ rfl rfl (Nat.le_of_ble_eq_true rfl) dL_areAll_117 ⟨Nat.le_of_ble_eq_true rfl, Nat.le_of_ble_eq_true rfl⟩ (fun H locs hP hD hS => ?_)
              refine lv_eqi (y := nI (n_br N p)) (e_p0 h (p := p) (by omega)) ?_
              refine lv_icmp_gt (tgt := 264) hx hb dL_areAll_120 (by decide) (fun c_151 => ?_) (fun c_151 => ?_)
              · skip
                exact absurd c_151 (nI_nlt (a := (n_br N p)) (b := (n_wa N p)) (by omega) (by omega))
              · skip
                refine lv_aload_n hx hb dL_areAll_123 rfl (lv_at hl 7 rfl) ?_
                refine lv_iload hx hb dL_areAll_124 (lv_at hl 9 rfl) ?_
                refine lv_iconst (v := nI 0) hx hb dL_areAll_126 (by decide) ?_
                refine h_op (st := []) C hS hP hD hl.1 (k_puddle (p := p) (by omega) (q := 0) (by decide)) gL_areAll_X4_puddle rfl hd_puddle ⟨Nat.le_of_ble_eq_true rfl, Nat.le_of_ble_eq_true rfl⟩ rfl rfl (Nat.le_of_ble_eq_true rfl) dL_areAll_127 ⟨Nat.le_of_ble_eq_true rfl, Nat.le_of_ble_eq_true rfl⟩ (fun H locs hP hD hS => ?_)
                refine lv_eqi (y := nI (n_br N p)) (e_p0 h (p := p) (by omega)) ?_
                refine lv_if_le (tgt := 264) hx hb dL_areAll_130 (by decide) (fun c_152 => ?_) (fun c_152 => ?_)
                · skip
                  exact absurd c_152 (nI_ge (a := 0) (b := (n_br N p)) (by omega) (by omega))
                · skip
                  refine lv_aload_n hx hb dL_areAll_133 rfl (lv_at hl 7 rfl) ?_
                  refine lv_iload hx hb dL_areAll_134 (lv_at hl 9 rfl) ?_
                  refine lv_iconst (v := nI 0) hx hb dL_areAll_136 (by decide) ?_
                  refine h_op (st := []) C hS hP hD hl.1 (k_puddle (p := p) (by omega) (q := 0) (by decide)) gL_areAll_X4_puddle rfl hd_puddle ⟨Nat.le_of_ble_eq_true rfl, Nat.le_of_ble_eq_true rfl⟩ rfl rfl (Nat.le_of_ble_eq_true rfl) dL_areAll_137 ⟨Nat.le_of_ble_eq_true rfl, Nat.le_of_ble_eq_true rfl⟩ (fun H locs hP hD hS => ?_)
                  refine lv_eqi (y := nI (n_br N p)) (e_p0 h (p := p) (by omega)) ?_
                  refine lv_bipush (v := nI 60) hx hb dL_areAll_140 (by decide) ?_
                  refine lv_icmp_gt (tgt := 264) hx hb dL_areAll_142 (by decide) (fun c_153 => ?_) (fun c_153 => ?_)
                  · skip
                    exact absurd c_153 (nI_nlt (a := 60) (b := (n_br N p)) (by omega) (by omega))
                  · skip
                    refine lv_aload_n hx hb dL_areAll_145 rfl (lv_at hl 7 rfl) ?_
                    refine lv_iload hx hb dL_areAll_146 (lv_at hl 9 rfl) ?_
                    refine lv_iconst (v := nI 2) hx hb dL_areAll_148 (by decide) ?_
                    refine h_op (st := []) C hS hP hD hl.1 (k_puddle (p := p) (by omega) (q := 2) (by decide)) gL_areAll_X4_puddle rfl hd_puddle ⟨Nat.le_of_ble_eq_true rfl, Nat.le_of_ble_eq_true rfl⟩ rfl rfl (Nat.le_of_ble_eq_true rfl) dL_areAll_149 ⟨Nat.le_of_ble_eq_true rfl, Nat.le_of_ble_eq_true rfl⟩ (fun H locs hP hD hS => ?_)
                    refine lv_eqi (y := nI (n_wa N p / 5)) (e_p2 h b (p := p) (by omega)) ?_
                    refine lv_iload hx hb dL_areAll_152 (lv_at hl 6 rfl) ?_
                    refine lv_iconst (v := nI 5) hx hb dL_areAll_154 (by decide) ?_
                    refine lv_idiv hx hb dL_areAll_155 (by decide) ?_
                    refine lv_eqi (pk_div (by omega) (by omega) (by omega)) ?_
                    refine lv_icmp_ne (tgt := 264) hx hb dL_areAll_156 (by decide) (fun c_154 => ?_) (fun c_154 => ?_)
                    · skip
                      exact absurd ((nI_eq (a := (n_wa N p / 5)) (b := ((n_wa N p) / 5)) (by omega) (by omega)).mpr (by omega)) c_154
                    · skip
                      refine lv_aload_n hx hb dL_areAll_159 rfl (lv_at hl 7 rfl) ?_
                      refine lv_iload hx hb dL_areAll_160 (lv_at hl 9 rfl) ?_
                      refine lv_iconst (v := nI 3) hx hb dL_areAll_162 (by decide) ?_
                      refine h_op (st := []) C hS hP hD hl.1 (k_puddle (p := p) (by omega) (q := 3) (by decide)) gL_areAll_X4_puddle rfl hd_puddle ⟨Nat.le_of_ble_eq_true rfl, Nat.le_of_ble_eq_true rfl⟩ rfl rfl (Nat.le_of_ble_eq_true rfl) dL_areAll_163 ⟨Nat.le_of_ble_eq_true rfl, Nat.le_of_ble_eq_true rfl⟩ (fun H locs hP hD hS => ?_)
                      refine lv_eqi (y := nI (bN (n_fz N) p)) (e_p3 h b (p := p) (by omega)) ?_
                      refine lv_if_lt (tgt := 264) hx hb dL_areAll_166 (by decide) (fun c_155 => ?_) (fun c_155 => ?_)
                      · skip
                        exact absurd c_155 (nI_nlt (a := (bN (n_fz N) p)) (b := 0) (by omega) (by omega))
                      · skip
                        refine lv_aload_n hx hb dL_areAll_169 rfl (lv_at hl 7 rfl) ?_
                        refine lv_iload hx hb dL_areAll_170 (lv_at hl 9 rfl) ?_
                        refine lv_iconst (v := nI 3) hx hb dL_areAll_172 (by decide) ?_
                        refine h_op (st := []) C hS hP hD hl.1 (k_puddle (p := p) (by omega) (q := 3) (by decide)) gL_areAll_X4_puddle rfl hd_puddle ⟨Nat.le_of_ble_eq_true rfl, Nat.le_of_ble_eq_true rfl⟩ rfl rfl (Nat.le_of_ble_eq_true rfl) dL_areAll_173 ⟨Nat.le_of_ble_eq_true rfl, Nat.le_of_ble_eq_true rfl⟩ (fun H locs hP hD hS => ?_)
                        refine lv_eqi (y := nI (bN (n_fz N) p)) (e_p3 h b (p := p) (by omega)) ?_
                        refine lv_iconst (v := nI 2) hx hb dL_areAll_176 (by decide) ?_
                        refine lv_icmp_ge (tgt := 264) hx hb dL_areAll_177 (by decide) (fun c_156 => ?_) (fun c_156 => ?_)
                        · skip
                          exact absurd c_156 (nI_ge (a := (bN (n_fz N) p)) (b := 2) (by omega) (by omega))
                        · skip
                          refine lv_aload_n hx hb dL_areAll_180 rfl (lv_at hl 7 rfl) ?_
                          refine lv_iload hx hb dL_areAll_181 (lv_at hl 9 rfl) ?_
                          refine lv_bipush (v := nI 6) hx hb dL_areAll_183 (by decide) ?_
                          refine h_op (st := []) C hS hP hD hl.1 (k_puddle (p := p) (by omega) (q := 6) (by decide)) gL_areAll_X4_puddle rfl hd_puddle ⟨Nat.le_of_ble_eq_true rfl, Nat.le_of_ble_eq_true rfl⟩ rfl rfl (Nat.le_of_ble_eq_true rfl) dL_areAll_185 ⟨Nat.le_of_ble_eq_true rfl, Nat.le_of_ble_eq_true rfl⟩ (fun H locs hP hD hS => ?_)
                          refine lv_eqi (y := nI (hldN N p)) (e_p6 h b (p := p) (by omega)) ?_
                          refine lv_if_lt (tgt := 264) hx hb dL_areAll_188 (by decide) (fun c_157 => ?_) (fun c_157 => ?_)
                          · skip
                            exact absurd c_157 (nI_nlt (a := (hldN N p)) (b := 0) (by omega) (by omega))
                          · skip
                            refine lv_aload_n hx hb dL_areAll_191 rfl (lv_at hl 7 rfl) ?_
                            refine lv_iload hx hb dL_areAll_192 (lv_at hl 9 rfl) ?_
                            refine lv_bipush (v := nI 6) hx hb dL_areAll_194 (by decide) ?_
                            refine h_op (st := []) C hS hP hD hl.1 (k_puddle (p := p) (by omega) (q := 6) (by decide)) gL_areAll_X4_puddle rfl hd_puddle ⟨Nat.le_of_ble_eq_true rfl, Nat.le_of_ble_eq_true rfl⟩ rfl rfl (Nat.le_of_ble_eq_true rfl) dL_areAll_196 ⟨Nat.le_of_ble_eq_true rfl, Nat.le_of_ble_eq_true rfl⟩ (fun H locs hP hD hS => ?_)
                            refine lv_eqi (y := nI (hldN N p)) (e_p6 h b (p := p) (by omega)) ?_
                            refine lv_bipush (v := nI 64) hx hb dL_areAll_199 (by decide) ?_
                            refine lv_icmp_ge (tgt := 264) hx hb dL_areAll_201 (by decide) (fun c_158 => ?_) (fun c_158 => ?_)
                            · skip
                              exact absurd c_158 (nI_ge (a := (hldN N p)) (b := 64) (by omega) (by omega))
                            · skip
                              refine lv_iload hx hb dL_areAll_204 (lv_at hl 0 rfl) ?_
                              refine lv_if_ne (tgt := 213) hx hb dL_areAll_206 (by decide) (fun c_159 => ?_) (fun c_159 => ?_)
                              · skip
                                exact absurd (by decide) c_159
                              · skip
                                refine lv_iconst (v := nI 1) hx hb dL_areAll_209 (by decide) ?_
                                refine lv_goto (tgt := 214) hx hb dL_areAll_210 (by decide) ?_
                                refine lv_iload hx hb dL_areAll_214 (lv_at hl 6 rfl) ?_
                                refine lv_if_ne (tgt := 223) hx hb dL_areAll_216 (by decide) (fun c_160 => ?_) (fun c_160 => ?_)
                                · skip
                                  exact absurd ((nI_eq (a := (n_wa N p)) (b := 0) (by omega) (by omega)).mpr (by omega)) c_160
                                · skip
                                  refine lv_iconst (v := nI 1) hx hb dL_areAll_219 (by decide) ?_
                                  refine lv_goto (tgt := 224) hx hb dL_areAll_220 (by decide) ?_
                                  refine lv_icmp_ne (tgt := 264) hx hb dL_areAll_224 (by decide) (fun c_161 => ?_) (fun c_161 => ?_)
                                  · skip
                                    exact absurd (by decide) c_161
                                  · skip
                                    refine lv_iload hx hb dL_areAll_227 (lv_at hl 0 rfl) ?_
                                    refine lv_bipush (v := (-6)) hx hb dL_areAll_229 (by decide) ?_
                                    refine lv_icmp_ne (tgt := 238) hx hb dL_areAll_231 (by decide) (fun c_162 => ?_) (fun c_162 => ?_)
                                    · skip
                                      refine lv_iconst (v := nI 0) hx hb dL_areAll_238 (by decide) ?_
                                      refine lv_iload hx hb dL_areAll_239 (lv_at hl 6 rfl) ?_
                                      refine lv_if_le (tgt := 256) hx hb dL_areAll_241 (by decide) (fun c_163 => ?_) (fun c_163 => ?_)
                                      · skip
                                        refine lv_iconst (v := nI 0) hx hb dL_areAll_256 (by decide) ?_
                                        refine lv_icmp_ne (tgt := 264) hx hb dL_areAll_257 (by decide) (fun c_164 => ?_) (fun c_164 => ?_)
                                        · skip
                                          exact absurd (by decide) c_164
                                        · skip
                                          refine lv_iconst (v := nI 1) hx hb dL_areAll_260 (by decide) ?_
                                          refine lv_goto (tgt := 265) hx hb dL_areAll_261 (by decide) ?_
                                          refine lv_istore (lv' := [(6, .int (nI 1)), (9, .int (nI 0)), (5, .int (nI ((snN (fun p => popN (hldN N p) 12) p) + (popN (hldN N p) 12)))), (4, .int ((smD (s_cr v.1) p) + (s_cr v.1 p))), (3, .int (nI (n_dk N % 2 ^ (p + 1)))), (2, .int (nI (n_fz N % 2 ^ (p + 1)))), (1, .int (nI ((snN (n_wa N) p) + (n_wa N p)))), (8, .int (nI (n_wa N p))), (0, .ref B.1.1), (7, .int (nI p))]) hx hb dL_areAll_265 hl (by decide) rfl (fun ls hl => ?_)
                                          refine lv_iinc (v := nI (p + 1)) (lv' := [(7, .int (nI (p + 1))), (6, .int (nI 1)), (9, .int (nI 0)), (5, .int (nI ((snN (fun p => popN (hldN N p) 12) p) + (popN (hldN N p) 12)))), (4, .int ((smD (s_cr v.1) p) + (s_cr v.1 p))), (3, .int (nI (n_dk N % 2 ^ (p + 1)))), (2, .int (nI (n_fz N % 2 ^ (p + 1)))), (1, .int (nI ((snN (n_wa N) p) + (n_wa N p)))), (8, .int (nI (n_wa N p))), (0, .ref B.1.1)]) hx hb dL_areAll_267 hl (k := 9) rfl (nI_1 _) (by decide) rfl (fun ls hl => ?_)
                                          refine lv_goto (tgt := 18) hx hb dL_areAll_270 (by decide) ?_
                                          exact ih (p + 1) (by omega) _ _ _ hP (D_of hD rfl) hS (by rw [show (nI (snN (n_wa N) (p + 1))) = (nI ((snN (n_wa N) p) + (n_wa N p))) from by rfl, show (smD (s_cr v.1) (p + 1)) = ((smD (s_cr v.1) p) + (s_cr v.1 p)) from by rfl, show (nI (snN (fun p => popN (hldN N p) 12) (p + 1))) = (nI ((snN (fun p => popN (hldN N p) 12) p) + (popN (hldN N p) 12))) from by rfl]; exact lv_sub hl [9, 7, 6, 5, 4, 3, 1, 0] rfl)
                                      · skip
                                        exact absurd (nI_le (a := (n_wa N p)) (b := 0) (by omega) (by omega)) c_163
                                    · skip
                                      exact absurd c_162 (by decide)
          · skip
            refine lv_aload_n hx hb dL_areAll_30 rfl (lv_at hl 0 rfl) ?_
            refine lv_iload hx hb dL_areAll_31 (lv_at hl 7 rfl) ?_
            refine lv_iconst (v := nI 1) hx hb dL_areAll_33 (by decide) ?_
            refine h_op (st := []) C hS hP hD hl.1 (k_puddle (p := p) (by omega) (q := 1) (by decide)) gL_areAll_X4_puddle rfl hd_puddle ⟨Nat.le_of_ble_eq_true rfl, Nat.le_of_ble_eq_true rfl⟩ rfl rfl (Nat.le_of_ble_eq_true rfl) dL_areAll_34 ⟨Nat.le_of_ble_eq_true rfl, Nat.le_of_ble_eq_true rfl⟩ (fun H locs hP hD hS => ?_)
            refine lv_eqi (y := nI (n_wa N p)) (e_p1 h (p := p) (by omega)) ?_
            refine lv_istore (lv' := [(8, .int (nI (n_wa N p))), (0, .ref B.1.1), (1, .int (nI (snN (n_wa N) p))), (2, .int (nI (n_fz N % 2 ^ p))), (3, .int (nI (n_dk N % 2 ^ p))), (4, .int (smD (s_cr v.1) p)), (5, .int (nI (snN (fun p => popN (hldN N p) 12) p))), (6, .int (nI 1)), (7, .int (nI p))]) hx hb dL_areAll_37 hl (by decide) rfl (fun ls hl => ?_)
            refine lv_iload_n hx hb dL_areAll_39 rfl (lv_at hl 2 rfl) ?_
            refine lv_iload hx hb dL_areAll_40 (lv_at hl 0 rfl) ?_
            refine lv_iadd hx hb dL_areAll_42 ?_
            refine lv_eqi (nI_add _ _) ?_
            refine lv_istore_n (lv' := [(1, .int (nI ((snN (n_wa N) p) + (n_wa N p)))), (8, .int (nI (n_wa N p))), (0, .ref B.1.1), (2, .int (nI (n_fz N % 2 ^ p))), (3, .int (nI (n_dk N % 2 ^ p))), (4, .int (smD (s_cr v.1) p)), (5, .int (nI (snN (fun p => popN (hldN N p) 12) p))), (6, .int (nI 1)), (7, .int (nI p))]) hx hb dL_areAll_43 rfl hl (by decide) rfl (fun ls hl => ?_)
            refine lv_iload_n hx hb dL_areAll_44 rfl (lv_at hl 3 rfl) ?_
            refine lv_aload_n hx hb dL_areAll_45 rfl (lv_at hl 2 rfl) ?_
            refine lv_iload hx hb dL_areAll_46 (lv_at hl 8 rfl) ?_
            refine lv_iconst (v := nI 3) hx hb dL_areAll_48 (by decide) ?_
            refine h_op (st := [.int (nI (n_fz N % 2 ^ p))]) C hS hP hD hl.1 (k_puddle (p := p) (by omega) (q := 3) (by decide)) gL_areAll_X4_puddle rfl hd_puddle ⟨Nat.le_of_ble_eq_true rfl, Nat.le_of_ble_eq_true rfl⟩ rfl rfl (Nat.le_of_ble_eq_true rfl) dL_areAll_49 ⟨Nat.le_of_ble_eq_true rfl, Nat.le_of_ble_eq_true rfl⟩ (fun H locs hP hD hS => ?_)
            refine lv_eqi (y := nI (bN (n_fz N) p)) (e_p3 h b (p := p) (by omega)) ?_
            refine lv_iload hx hb dL_areAll_52 (lv_at hl 8 rfl) ?_
            refine lv_ishl hx hb dL_areAll_54 ?_
            refine lv_ior hx hb dL_areAll_55 ?_
            refine lv_eqi (y := nI (n_fz N % 2 ^ (p + 1))) (by exact lo_N _ b.fz p (by omega)) ?_
            refine lv_istore_n (lv' := [(2, .int (nI (n_fz N % 2 ^ (p + 1)))), (1, .int (nI ((snN (n_wa N) p) + (n_wa N p)))), (8, .int (nI (n_wa N p))), (0, .ref B.1.1), (3, .int (nI (n_dk N % 2 ^ p))), (4, .int (smD (s_cr v.1) p)), (5, .int (nI (snN (fun p => popN (hldN N p) 12) p))), (6, .int (nI 1)), (7, .int (nI p))]) hx hb dL_areAll_56 rfl hl (by decide) rfl (fun ls hl => ?_)
            refine lv_iload_n hx hb dL_areAll_57 rfl (lv_at hl 4 rfl) ?_
            refine lv_aload_n hx hb dL_areAll_58 rfl (lv_at hl 3 rfl) ?_
            refine lv_iload hx hb dL_areAll_59 (lv_at hl 8 rfl) ?_
            refine lv_iconst (v := nI 4) hx hb dL_areAll_61 (by decide) ?_
            refine h_op (st := [.int (nI (n_dk N % 2 ^ p))]) C hS hP hD hl.1 (k_puddle (p := p) (by omega) (q := 4) (by decide)) gL_areAll_X4_puddle rfl hd_puddle ⟨Nat.le_of_ble_eq_true rfl, Nat.le_of_ble_eq_true rfl⟩ rfl rfl (Nat.le_of_ble_eq_true rfl) dL_areAll_62 ⟨Nat.le_of_ble_eq_true rfl, Nat.le_of_ble_eq_true rfl⟩ (fun H locs hP hD hS => ?_)
            refine lv_eqi (y := nI (bN (n_dk N) p)) (e_p4 h b (p := p) (by omega)) ?_
            refine lv_iload hx hb dL_areAll_65 (lv_at hl 8 rfl) ?_
            refine lv_ishl hx hb dL_areAll_67 ?_
            refine lv_ior hx hb dL_areAll_68 ?_
            refine lv_eqi (y := nI (n_dk N % 2 ^ (p + 1))) (by exact lo_N _ b.dk p (by omega)) ?_
            refine lv_istore_n (lv' := [(3, .int (nI (n_dk N % 2 ^ (p + 1)))), (2, .int (nI (n_fz N % 2 ^ (p + 1)))), (1, .int (nI ((snN (n_wa N) p) + (n_wa N p)))), (8, .int (nI (n_wa N p))), (0, .ref B.1.1), (4, .int (smD (s_cr v.1) p)), (5, .int (nI (snN (fun p => popN (hldN N p) 12) p))), (6, .int (nI 1)), (7, .int (nI p))]) hx hb dL_areAll_69 rfl hl (by decide) rfl (fun ls hl => ?_)
            refine lv_iload hx hb dL_areAll_70 (lv_at hl 5 rfl) ?_
            refine lv_aload_n hx hb dL_areAll_72 rfl (lv_at hl 4 rfl) ?_
            refine lv_iload hx hb dL_areAll_73 (lv_at hl 8 rfl) ?_
            refine lv_iconst (v := nI 5) hx hb dL_areAll_75 (by decide) ?_
            refine h_op (st := [.int (smD (s_cr v.1) p)]) C hS hP hD hl.1 (k_puddle (p := p) (by omega) (q := 5) (by decide)) gL_areAll_X4_puddle rfl hd_puddle ⟨Nat.le_of_ble_eq_true rfl, Nat.le_of_ble_eq_true rfl⟩ rfl rfl (Nat.le_of_ble_eq_true rfl) dL_areAll_76 ⟨Nat.le_of_ble_eq_true rfl, Nat.le_of_ble_eq_true rfl⟩ (fun H locs hP hD hS => ?_)
            refine lv_eqi (y := s_cr v.1 p) (rfl) ?_
            refine lv_iadd hx hb dL_areAll_79 ?_
            refine lv_istore (lv' := [(4, .int ((smD (s_cr v.1) p) + (s_cr v.1 p))), (3, .int (nI (n_dk N % 2 ^ (p + 1)))), (2, .int (nI (n_fz N % 2 ^ (p + 1)))), (1, .int (nI ((snN (n_wa N) p) + (n_wa N p)))), (8, .int (nI (n_wa N p))), (0, .ref B.1.1), (5, .int (nI (snN (fun p => popN (hldN N p) 12) p))), (6, .int (nI 1)), (7, .int (nI p))]) hx hb dL_areAll_80 hl (by decide) rfl (fun ls hl => ?_)
            refine lv_iload hx hb dL_areAll_82 (lv_at hl 6 rfl) ?_
            refine lv_aload_n hx hb dL_areAll_84 rfl (lv_at hl 5 rfl) ?_
            refine lv_iload hx hb dL_areAll_85 (lv_at hl 8 rfl) ?_
            refine lv_bipush (v := nI 6) hx hb dL_areAll_87 (by decide) ?_
            refine h_op (st := [.int (nI (snN (fun p => popN (hldN N p) 12) p))]) C hS hP hD hl.1 (k_puddle (p := p) (by omega) (q := 6) (by decide)) gL_areAll_X4_puddle rfl hd_puddle ⟨Nat.le_of_ble_eq_true rfl, Nat.le_of_ble_eq_true rfl⟩ rfl rfl (Nat.le_of_ble_eq_true rfl) dL_areAll_89 ⟨Nat.le_of_ble_eq_true rfl, Nat.le_of_ble_eq_true rfl⟩ (fun H locs hP hD hS => ?_)
            refine lv_eqi (y := nI (hldN N p)) (e_p6 h b (p := p) (by omega)) ?_
            refine h_sz (st := [.int (nI (snN (fun p => popN (hldN N p) 12) p))]) C hS hP hl.1 (c_L_size l G ca (m := (hldN N p)) (mkN_lt12 _ (by omega))) gL_areAll_L_size rfl rfl rfl hd_L_size ⟨Nat.le_of_ble_eq_true rfl, Nat.le_of_ble_eq_true rfl⟩ rfl rfl (Nat.le_of_ble_eq_true rfl) dL_areAll_92 ⟨Nat.le_of_ble_eq_true rfl, Nat.le_of_ble_eq_true rfl⟩ (fun H locs hP hS => ?_)
            refine lv_iadd hx hb dL_areAll_95 ?_
            refine lv_eqi (nI_add _ _) ?_
            refine lv_istore (lv' := [(5, .int (nI ((snN (fun p => popN (hldN N p) 12) p) + (popN (hldN N p) 12)))), (4, .int ((smD (s_cr v.1) p) + (s_cr v.1 p))), (3, .int (nI (n_dk N % 2 ^ (p + 1)))), (2, .int (nI (n_fz N % 2 ^ (p + 1)))), (1, .int (nI ((snN (n_wa N) p) + (n_wa N p)))), (8, .int (nI (n_wa N p))), (0, .ref B.1.1), (6, .int (nI 1)), (7, .int (nI p))]) hx hb dL_areAll_96 hl (by decide) rfl (fun ls hl => ?_)
            refine lv_aload_n hx hb dL_areAll_98 rfl (lv_at hl 6 rfl) ?_
            refine lv_iload hx hb dL_areAll_99 (lv_at hl 8 rfl) ?_
            refine h_op (st := []) C hS hP hD hl.1 (k_untilDry (p := p) (by omega)) gL_areAll_X4_untilDry rfl hd_untilDry ⟨Nat.le_of_ble_eq_true rfl, Nat.le_of_ble_eq_true rfl⟩ rfl rfl (Nat.le_of_ble_eq_true rfl) dL_areAll_101 ⟨Nat.le_of_ble_eq_true rfl, Nat.le_of_ble_eq_true rfl⟩ (fun H locs hP hD hS => ?_)
            refine lv_eqi (y := (-6)) (by exact z2) ?_
            refine lv_istore (lv' := [(9, .int (-6)), (5, .int (nI ((snN (fun p => popN (hldN N p) 12) p) + (popN (hldN N p) 12)))), (4, .int ((smD (s_cr v.1) p) + (s_cr v.1 p))), (3, .int (nI (n_dk N % 2 ^ (p + 1)))), (2, .int (nI (n_fz N % 2 ^ (p + 1)))), (1, .int (nI ((snN (n_wa N) p) + (n_wa N p)))), (8, .int (nI (n_wa N p))), (0, .ref B.1.1), (6, .int (nI 1)), (7, .int (nI p))]) hx hb dL_areAll_104 hl (by decide) rfl (fun ls hl => ?_)
            refine lv_iload hx hb dL_areAll_106 (lv_at hl 6 rfl) ?_
            refine lv_if_lt (tgt := 264) hx hb dL_areAll_108 (by decide) (fun c_165 => ?_) (fun c_165 => ?_)
            · skip
              exact absurd c_165 (nI_nlt (a := (n_wa N p)) (b := 0) (by omega) (by omega))
            · skip
              refine lv_iload hx hb dL_areAll_111 (lv_at hl 6 rfl) ?_
              refine lv_aload_n hx hb dL_areAll_113 rfl (lv_at hl 7 rfl) ?_
              refine lv_iload hx hb dL_areAll_114 (lv_at hl 9 rfl) ?_
              refine lv_iconst (v := nI 0) hx hb dL_areAll_116 (by decide) ?_
              refine h_op (st := [.int (nI (n_wa N p))]) C hS hP hD hl.1 (k_puddle (p := p) (by omega) (q := 0) (by decide)) gL_areAll_X4_puddle rfl hd_puddle ⟨Nat.le_of_ble_eq_true rfl, Nat.le_of_ble_eq_true rfl⟩ rfl rfl (Nat.le_of_ble_eq_true rfl) dL_areAll_117 ⟨Nat.le_of_ble_eq_true rfl, Nat.le_of_ble_eq_true rfl⟩ (fun H locs hP hD hS => ?_)
              refine lv_eqi (y := nI (n_br N p)) (e_p0 h (p := p) (by omega)) ?_
              refine lv_icmp_gt (tgt := 264) hx hb dL_areAll_120 (by decide) (fun c_166 => ?_) (fun c_166 => ?_)
              · skip
                exact absurd c_166 (nI_nlt (a := (n_br N p)) (b := (n_wa N p)) (by omega) (by omega))
              · skip
                refine lv_aload_n hx hb dL_areAll_123 rfl (lv_at hl 7 rfl) ?_
                refine lv_iload hx hb dL_areAll_124 (lv_at hl 9 rfl) ?_
                refine lv_iconst (v := nI 0) hx hb dL_areAll_126 (by decide) ?_
                refine h_op (st := []) C hS hP hD hl.1 (k_puddle (p := p) (by omega) (q := 0) (by decide)) gL_areAll_X4_puddle rfl hd_puddle ⟨Nat.le_of_ble_eq_true rfl, Nat.le_of_ble_eq_true rfl⟩ rfl rfl (Nat.le_of_ble_eq_true rfl) dL_areAll_127 ⟨Nat.le_of_ble_eq_true rfl, Nat.le_of_ble_eq_true rfl⟩ (fun H locs hP hD hS => ?_)
                refine lv_eqi (y := nI (n_br N p)) (e_p0 h (p := p) (by omega)) ?_
                refine lv_if_le (tgt := 264) hx hb dL_areAll_130 (by decide) (fun c_167 => ?_) (fun c_167 => ?_)
                · skip
                  exact absurd c_167 (nI_ge (a := 0) (b := (n_br N p)) (by omega) (by omega))
                · skip
                  refine lv_aload_n hx hb dL_areAll_133 rfl (lv_at hl 7 rfl) ?_
                  refine lv_iload hx hb dL_areAll_134 (lv_at hl 9 rfl) ?_
                  refine lv_iconst (v := nI 0) hx hb dL_areAll_136 (by decide) ?_
                  refine h_op (st := []) C hS hP hD hl.1 (k_puddle (p := p) (by omega) (q := 0) (by decide)) gL_areAll_X4_puddle rfl hd_puddle ⟨Nat.le_of_ble_eq_true rfl, Nat.le_of_ble_eq_true rfl⟩ rfl rfl (Nat.le_of_ble_eq_true rfl) dL_areAll_137 ⟨Nat.le_of_ble_eq_true rfl, Nat.le_of_ble_eq_true rfl⟩ (fun H locs hP hD hS => ?_)
                  refine lv_eqi (y := nI (n_br N p)) (e_p0 h (p := p) (by omega)) ?_
                  refine lv_bipush (v := nI 60) hx hb dL_areAll_140 (by decide) ?_
                  refine lv_icmp_gt (tgt := 264) hx hb dL_areAll_142 (by decide) (fun c_168 => ?_) (fun c_168 => ?_)
                  · skip
                    exact absurd c_168 (nI_nlt (a := 60) (b := (n_br N p)) (by omega) (by omega))
                  · skip
                    refine lv_aload_n hx hb dL_areAll_145 rfl (lv_at hl 7 rfl) ?_
                    refine lv_iload hx hb dL_areAll_146 (lv_at hl 9 rfl) ?_
                    refine lv_iconst (v := nI 2) hx hb dL_areAll_148 (by decide) ?_
                    refine h_op (st := []) C hS hP hD hl.1 (k_puddle (p := p) (by omega) (q := 2) (by decide)) gL_areAll_X4_puddle rfl hd_puddle ⟨Nat.le_of_ble_eq_true rfl, Nat.le_of_ble_eq_true rfl⟩ rfl rfl (Nat.le_of_ble_eq_true rfl) dL_areAll_149 ⟨Nat.le_of_ble_eq_true rfl, Nat.le_of_ble_eq_true rfl⟩ (fun H locs hP hD hS => ?_)
                    refine lv_eqi (y := nI (n_wa N p / 5)) (e_p2 h b (p := p) (by omega)) ?_
                    refine lv_iload hx hb dL_areAll_152 (lv_at hl 6 rfl) ?_
                    refine lv_iconst (v := nI 5) hx hb dL_areAll_154 (by decide) ?_
                    refine lv_idiv hx hb dL_areAll_155 (by decide) ?_
                    refine lv_eqi (pk_div (by omega) (by omega) (by omega)) ?_
                    refine lv_icmp_ne (tgt := 264) hx hb dL_areAll_156 (by decide) (fun c_169 => ?_) (fun c_169 => ?_)
                    · skip
                      exact absurd ((nI_eq (a := (n_wa N p / 5)) (b := ((n_wa N p) / 5)) (by omega) (by omega)).mpr (by omega)) c_169
                    · skip
                      refine lv_aload_n hx hb dL_areAll_159 rfl (lv_at hl 7 rfl) ?_
                      refine lv_iload hx hb dL_areAll_160 (lv_at hl 9 rfl) ?_
                      refine lv_iconst (v := nI 3) hx hb dL_areAll_162 (by decide) ?_
                      refine h_op (st := []) C hS hP hD hl.1 (k_puddle (p := p) (by omega) (q := 3) (by decide)) gL_areAll_X4_puddle rfl hd_puddle ⟨Nat.le_of_ble_eq_true rfl, Nat.le_of_ble_eq_true rfl⟩ rfl rfl (Nat.le_of_ble_eq_true rfl) dL_areAll_163 ⟨Nat.le_of_ble_eq_true rfl, Nat.le_of_ble_eq_true rfl⟩ (fun H locs hP hD hS => ?_)
                      refine lv_eqi (y := nI (bN (n_fz N) p)) (e_p3 h b (p := p) (by omega)) ?_
                      refine lv_if_lt (tgt := 264) hx hb dL_areAll_166 (by decide) (fun c_170 => ?_) (fun c_170 => ?_)
                      · skip
                        exact absurd c_170 (nI_nlt (a := (bN (n_fz N) p)) (b := 0) (by omega) (by omega))
                      · skip
                        refine lv_aload_n hx hb dL_areAll_169 rfl (lv_at hl 7 rfl) ?_
                        refine lv_iload hx hb dL_areAll_170 (lv_at hl 9 rfl) ?_
                        refine lv_iconst (v := nI 3) hx hb dL_areAll_172 (by decide) ?_
                        refine h_op (st := []) C hS hP hD hl.1 (k_puddle (p := p) (by omega) (q := 3) (by decide)) gL_areAll_X4_puddle rfl hd_puddle ⟨Nat.le_of_ble_eq_true rfl, Nat.le_of_ble_eq_true rfl⟩ rfl rfl (Nat.le_of_ble_eq_true rfl) dL_areAll_173 ⟨Nat.le_of_ble_eq_true rfl, Nat.le_of_ble_eq_true rfl⟩ (fun H locs hP hD hS => ?_)
                        refine lv_eqi (y := nI (bN (n_fz N) p)) (e_p3 h b (p := p) (by omega)) ?_
                        refine lv_iconst (v := nI 2) hx hb dL_areAll_176 (by decide) ?_
                        refine lv_icmp_ge (tgt := 264) hx hb dL_areAll_177 (by decide) (fun c_171 => ?_) (fun c_171 => ?_)
                        · skip
                          exact absurd c_171 (nI_ge (a := (bN (n_fz N) p)) (b := 2) (by omega) (by omega))
                        · skip
                          refine lv_aload_n hx hb dL_areAll_180 rfl (lv_at hl 7 rfl) ?_
                          refine lv_iload hx hb dL_areAll_181 (lv_at hl 9 rfl) ?_
                          refine lv_bipush (v := nI 6) hx hb dL_areAll_183 (by decide) ?_
                          refine h_op (st := []) C hS hP hD hl.1 (k_puddle (p := p) (by omega) (q := 6) (by decide)) gL_areAll_X4_puddle rfl hd_puddle ⟨Nat.le_of_ble_eq_true rfl, Nat.le_of_ble_eq_true rfl⟩ rfl rfl (Nat.le_of_ble_eq_true rfl) dL_areAll_185 ⟨Nat.le_of_ble_eq_true rfl, Nat.le_of_ble_eq_true rfl⟩ (fun H locs hP hD hS => ?_)
                          refine lv_eqi (y := nI (hldN N p)) (e_p6 h b (p := p) (by omega)) ?_
                          refine lv_if_lt (tgt := 264) hx hb dL_areAll_188 (by decide) (fun c_172 => ?_) (fun c_172 => ?_)
                          · skip
                            exact absurd c_172 (nI_nlt (a := (hldN N p)) (b := 0) (by omega) (by omega))
                          · skip
                            refine lv_aload_n hx hb dL_areAll_191 rfl (lv_at hl 7 rfl) ?_
                            refine lv_iload hx hb dL_areAll_192 (lv_at hl 9 rfl) ?_
                            refine lv_bipush (v := nI 6) hx hb dL_areAll_194 (by decide) ?_
                            refine h_op (st := []) C hS hP hD hl.1 (k_puddle (p := p) (by omega) (q := 6) (by decide)) gL_areAll_X4_puddle rfl hd_puddle ⟨Nat.le_of_ble_eq_true rfl, Nat.le_of_ble_eq_true rfl⟩ rfl rfl (Nat.le_of_ble_eq_true rfl) dL_areAll_196 ⟨Nat.le_of_ble_eq_true rfl, Nat.le_of_ble_eq_true rfl⟩ (fun H locs hP hD hS => ?_)
                            refine lv_eqi (y := nI (hldN N p)) (e_p6 h b (p := p) (by omega)) ?_
                            refine lv_bipush (v := nI 64) hx hb dL_areAll_199 (by decide) ?_
                            refine lv_icmp_ge (tgt := 264) hx hb dL_areAll_201 (by decide) (fun c_173 => ?_) (fun c_173 => ?_)
                            · skip
                              exact absurd c_173 (nI_ge (a := (hldN N p)) (b := 64) (by omega) (by omega))
                            · skip
                              refine lv_iload hx hb dL_areAll_204 (lv_at hl 0 rfl) ?_
                              refine lv_if_ne (tgt := 213) hx hb dL_areAll_206 (by decide) (fun c_174 => ?_) (fun c_174 => ?_)
                              · skip
                                refine lv_iconst (v := nI 0) hx hb dL_areAll_213 (by decide) ?_
                                refine lv_iload hx hb dL_areAll_214 (lv_at hl 6 rfl) ?_
                                refine lv_if_ne (tgt := 223) hx hb dL_areAll_216 (by decide) (fun c_175 => ?_) (fun c_175 => ?_)
                                · skip
                                  refine lv_iconst (v := nI 0) hx hb dL_areAll_223 (by decide) ?_
                                  refine lv_icmp_ne (tgt := 264) hx hb dL_areAll_224 (by decide) (fun c_176 => ?_) (fun c_176 => ?_)
                                  · skip
                                    exact absurd (by decide) c_176
                                  · skip
                                    refine lv_iload hx hb dL_areAll_227 (lv_at hl 0 rfl) ?_
                                    refine lv_bipush (v := (-6)) hx hb dL_areAll_229 (by decide) ?_
                                    refine lv_icmp_ne (tgt := 238) hx hb dL_areAll_231 (by decide) (fun c_177 => ?_) (fun c_177 => ?_)
                                    · skip
                                      exact absurd (by decide) c_177
                                    · skip
                                      refine lv_iconst (v := nI 1) hx hb dL_areAll_234 (by decide) ?_
                                      refine lv_goto (tgt := 239) hx hb dL_areAll_235 (by decide) ?_
                                      refine lv_iload hx hb dL_areAll_239 (lv_at hl 6 rfl) ?_
                                      refine lv_if_le (tgt := 256) hx hb dL_areAll_241 (by decide) (fun c_178 => ?_) (fun c_178 => ?_)
                                      · skip
                                        exact absurd c_178 (nI_ge (a := 0) (b := (n_wa N p)) (by omega) (by omega))
                                      · skip
                                        refine lv_aload_n hx hb dL_areAll_244 rfl (lv_at hl 7 rfl) ?_
                                        refine lv_iconst (v := nI 1) hx hb dL_areAll_245 (by decide) ?_
                                        refine h_op (st := [.int (nI 1)]) C hS hP hD hl.1 (k_count h0 (q := 1) (by decide)) gL_areAll_X4_count rfl hd_count ⟨Nat.le_of_ble_eq_true rfl, Nat.le_of_ble_eq_true rfl⟩ rfl rfl (Nat.le_of_ble_eq_true rfl) dL_areAll_246 ⟨Nat.le_of_ble_eq_true rfl, Nat.le_of_ble_eq_true rfl⟩ (fun H locs hP hD hS => ?_)
                                        refine lv_eqi (y := nI (n_se N 1)) (h.se 1 (by omega)) ?_
                                        refine lv_if_ne (tgt := 256) hx hb dL_areAll_249 (by decide) (fun c_179 => ?_) (fun c_179 => ?_)
                                        · skip
                                          exact absurd ((nI_eq (a := (n_se N 1)) (b := 0) (by omega) (by omega)).mpr (by omega)) c_179
                                        · skip
                                          refine lv_iconst (v := nI 1) hx hb dL_areAll_252 (by decide) ?_
                                          refine lv_goto (tgt := 257) hx hb dL_areAll_253 (by decide) ?_
                                          refine lv_icmp_ne (tgt := 264) hx hb dL_areAll_257 (by decide) (fun c_180 => ?_) (fun c_180 => ?_)
                                          · skip
                                            exact absurd (by decide) c_180
                                          · skip
                                            refine lv_iconst (v := nI 1) hx hb dL_areAll_260 (by decide) ?_
                                            refine lv_goto (tgt := 265) hx hb dL_areAll_261 (by decide) ?_
                                            refine lv_istore (lv' := [(6, .int (nI 1)), (9, .int (-6)), (5, .int (nI ((snN (fun p => popN (hldN N p) 12) p) + (popN (hldN N p) 12)))), (4, .int ((smD (s_cr v.1) p) + (s_cr v.1 p))), (3, .int (nI (n_dk N % 2 ^ (p + 1)))), (2, .int (nI (n_fz N % 2 ^ (p + 1)))), (1, .int (nI ((snN (n_wa N) p) + (n_wa N p)))), (8, .int (nI (n_wa N p))), (0, .ref B.1.1), (7, .int (nI p))]) hx hb dL_areAll_265 hl (by decide) rfl (fun ls hl => ?_)
                                            refine lv_iinc (v := nI (p + 1)) (lv' := [(7, .int (nI (p + 1))), (6, .int (nI 1)), (9, .int (-6)), (5, .int (nI ((snN (fun p => popN (hldN N p) 12) p) + (popN (hldN N p) 12)))), (4, .int ((smD (s_cr v.1) p) + (s_cr v.1 p))), (3, .int (nI (n_dk N % 2 ^ (p + 1)))), (2, .int (nI (n_fz N % 2 ^ (p + 1)))), (1, .int (nI ((snN (n_wa N) p) + (n_wa N p)))), (8, .int (nI (n_wa N p))), (0, .ref B.1.1)]) hx hb dL_areAll_267 hl (k := 9) rfl (nI_1 _) (by decide) rfl (fun ls hl => ?_)
                                            refine lv_goto (tgt := 18) hx hb dL_areAll_270 (by decide) ?_
                                            exact ih (p + 1) (by omega) _ _ _ hP (D_of hD rfl) hS (by rw [show (nI (snN (n_wa N) (p + 1))) = (nI ((snN (n_wa N) p) + (n_wa N p))) from by rfl, show (smD (s_cr v.1) (p + 1)) = ((smD (s_cr v.1) p) + (s_cr v.1 p)) from by rfl, show (nI (snN (fun p => popN (hldN N p) 12) (p + 1))) = (nI ((snN (fun p => popN (hldN N p) 12) p) + (popN (hldN N p) 12))) from by rfl]; exact lv_sub hl [9, 7, 6, 5, 4, 3, 1, 0] rfl)
                                · skip
                                  exact absurd ((nI_eq (a := (n_wa N p)) (b := 0) (by omega) (by omega)).mp c_175) (by omega)
                              · skip
                                exact absurd c_174 (by decide)
          · skip
            refine lv_aload_n hx hb dL_areAll_30 rfl (lv_at hl 0 rfl) ?_
            refine lv_iload hx hb dL_areAll_31 (lv_at hl 7 rfl) ?_
            refine lv_iconst (v := nI 1) hx hb dL_areAll_33 (by decide) ?_
            refine h_op (st := []) C hS hP hD hl.1 (k_puddle (p := p) (by omega) (q := 1) (by decide)) gL_areAll_X4_puddle rfl hd_puddle ⟨Nat.le_of_ble_eq_true rfl, Nat.le_of_ble_eq_true rfl⟩ rfl rfl (Nat.le_of_ble_eq_true rfl) dL_areAll_34 ⟨Nat.le_of_ble_eq_true rfl, Nat.le_of_ble_eq_true rfl⟩ (fun H locs hP hD hS => ?_)
            refine lv_eqi (y := nI (n_wa N p)) (e_p1 h (p := p) (by omega)) ?_
            refine lv_istore (lv' := [(8, .int (nI (n_wa N p))), (0, .ref B.1.1), (1, .int (nI (snN (n_wa N) p))), (2, .int (nI (n_fz N % 2 ^ p))), (3, .int (nI (n_dk N % 2 ^ p))), (4, .int (smD (s_cr v.1) p)), (5, .int (nI (snN (fun p => popN (hldN N p) 12) p))), (6, .int (nI 1)), (7, .int (nI p))]) hx hb dL_areAll_37 hl (by decide) rfl (fun ls hl => ?_)
            refine lv_iload_n hx hb dL_areAll_39 rfl (lv_at hl 2 rfl) ?_
            refine lv_iload hx hb dL_areAll_40 (lv_at hl 0 rfl) ?_
            refine lv_iadd hx hb dL_areAll_42 ?_
            refine lv_eqi (nI_add _ _) ?_
            refine lv_istore_n (lv' := [(1, .int (nI ((snN (n_wa N) p) + (n_wa N p)))), (8, .int (nI (n_wa N p))), (0, .ref B.1.1), (2, .int (nI (n_fz N % 2 ^ p))), (3, .int (nI (n_dk N % 2 ^ p))), (4, .int (smD (s_cr v.1) p)), (5, .int (nI (snN (fun p => popN (hldN N p) 12) p))), (6, .int (nI 1)), (7, .int (nI p))]) hx hb dL_areAll_43 rfl hl (by decide) rfl (fun ls hl => ?_)
            refine lv_iload_n hx hb dL_areAll_44 rfl (lv_at hl 3 rfl) ?_
            refine lv_aload_n hx hb dL_areAll_45 rfl (lv_at hl 2 rfl) ?_
            refine lv_iload hx hb dL_areAll_46 (lv_at hl 8 rfl) ?_
            refine lv_iconst (v := nI 3) hx hb dL_areAll_48 (by decide) ?_
            refine h_op (st := [.int (nI (n_fz N % 2 ^ p))]) C hS hP hD hl.1 (k_puddle (p := p) (by omega) (q := 3) (by decide)) gL_areAll_X4_puddle rfl hd_puddle ⟨Nat.le_of_ble_eq_true rfl, Nat.le_of_ble_eq_true rfl⟩ rfl rfl (Nat.le_of_ble_eq_true rfl) dL_areAll_49 ⟨Nat.le_of_ble_eq_true rfl, Nat.le_of_ble_eq_true rfl⟩ (fun H locs hP hD hS => ?_)
            refine lv_eqi (y := nI (bN (n_fz N) p)) (e_p3 h b (p := p) (by omega)) ?_
            refine lv_iload hx hb dL_areAll_52 (lv_at hl 8 rfl) ?_
            refine lv_ishl hx hb dL_areAll_54 ?_
            refine lv_ior hx hb dL_areAll_55 ?_
            refine lv_eqi (y := nI (n_fz N % 2 ^ (p + 1))) (by exact lo_N _ b.fz p (by omega)) ?_
            refine lv_istore_n (lv' := [(2, .int (nI (n_fz N % 2 ^ (p + 1)))), (1, .int (nI ((snN (n_wa N) p) + (n_wa N p)))), (8, .int (nI (n_wa N p))), (0, .ref B.1.1), (3, .int (nI (n_dk N % 2 ^ p))), (4, .int (smD (s_cr v.1) p)), (5, .int (nI (snN (fun p => popN (hldN N p) 12) p))), (6, .int (nI 1)), (7, .int (nI p))]) hx hb dL_areAll_56 rfl hl (by decide) rfl (fun ls hl => ?_)
            refine lv_iload_n hx hb dL_areAll_57 rfl (lv_at hl 4 rfl) ?_
            refine lv_aload_n hx hb dL_areAll_58 rfl (lv_at hl 3 rfl) ?_
            refine lv_iload hx hb dL_areAll_59 (lv_at hl 8 rfl) ?_
            refine lv_iconst (v := nI 4) hx hb dL_areAll_61 (by decide) ?_
            refine h_op (st := [.int (nI (n_dk N % 2 ^ p))]) C hS hP hD hl.1 (k_puddle (p := p) (by omega) (q := 4) (by decide)) gL_areAll_X4_puddle rfl hd_puddle ⟨Nat.le_of_ble_eq_true rfl, Nat.le_of_ble_eq_true rfl⟩ rfl rfl (Nat.le_of_ble_eq_true rfl) dL_areAll_62 ⟨Nat.le_of_ble_eq_true rfl, Nat.le_of_ble_eq_true rfl⟩ (fun H locs hP hD hS => ?_)
            refine lv_eqi (y := nI (bN (n_dk N) p)) (e_p4 h b (p := p) (by omega)) ?_
            refine lv_iload hx hb dL_areAll_65 (lv_at hl 8 rfl) ?_
            refine lv_ishl hx hb dL_areAll_67 ?_
            refine lv_ior hx hb dL_areAll_68 ?_
            refine lv_eqi (y := nI (n_dk N % 2 ^ (p + 1))) (by exact lo_N _ b.dk p (by omega)) ?_
            refine lv_istore_n (lv' := [(3, .int (nI (n_dk N % 2 ^ (p + 1)))), (2, .int (nI (n_fz N % 2 ^ (p + 1)))), (1, .int (nI ((snN (n_wa N) p) + (n_wa N p)))), (8, .int (nI (n_wa N p))), (0, .ref B.1.1), (4, .int (smD (s_cr v.1) p)), (5, .int (nI (snN (fun p => popN (hldN N p) 12) p))), (6, .int (nI 1)), (7, .int (nI p))]) hx hb dL_areAll_69 rfl hl (by decide) rfl (fun ls hl => ?_)
            refine lv_iload hx hb dL_areAll_70 (lv_at hl 5 rfl) ?_
            refine lv_aload_n hx hb dL_areAll_72 rfl (lv_at hl 4 rfl) ?_
            refine lv_iload hx hb dL_areAll_73 (lv_at hl 8 rfl) ?_
            refine lv_iconst (v := nI 5) hx hb dL_areAll_75 (by decide) ?_
            refine h_op (st := [.int (smD (s_cr v.1) p)]) C hS hP hD hl.1 (k_puddle (p := p) (by omega) (q := 5) (by decide)) gL_areAll_X4_puddle rfl hd_puddle ⟨Nat.le_of_ble_eq_true rfl, Nat.le_of_ble_eq_true rfl⟩ rfl rfl (Nat.le_of_ble_eq_true rfl) dL_areAll_76 ⟨Nat.le_of_ble_eq_true rfl, Nat.le_of_ble_eq_true rfl⟩ (fun H locs hP hD hS => ?_)
            refine lv_eqi (y := s_cr v.1 p) (rfl) ?_
            refine lv_iadd hx hb dL_areAll_79 ?_
            refine lv_istore (lv' := [(4, .int ((smD (s_cr v.1) p) + (s_cr v.1 p))), (3, .int (nI (n_dk N % 2 ^ (p + 1)))), (2, .int (nI (n_fz N % 2 ^ (p + 1)))), (1, .int (nI ((snN (n_wa N) p) + (n_wa N p)))), (8, .int (nI (n_wa N p))), (0, .ref B.1.1), (5, .int (nI (snN (fun p => popN (hldN N p) 12) p))), (6, .int (nI 1)), (7, .int (nI p))]) hx hb dL_areAll_80 hl (by decide) rfl (fun ls hl => ?_)
            refine lv_iload hx hb dL_areAll_82 (lv_at hl 6 rfl) ?_
            refine lv_aload_n hx hb dL_areAll_84 rfl (lv_at hl 5 rfl) ?_
            refine lv_iload hx hb dL_areAll_85 (lv_at hl 8 rfl) ?_
            refine lv_bipush (v := nI 6) hx hb dL_areAll_87 (by decide) ?_
            refine h_op (st := [.int (nI (snN (fun p => popN (hldN N p) 12) p))]) C hS hP hD hl.1 (k_puddle (p := p) (by omega) (q := 6) (by decide)) gL_areAll_X4_puddle rfl hd_puddle ⟨Nat.le_of_ble_eq_true rfl, Nat.le_of_ble_eq_true rfl⟩ rfl rfl (Nat.le_of_ble_eq_true rfl) dL_areAll_89 ⟨Nat.le_of_ble_eq_true rfl, Nat.le_of_ble_eq_true rfl⟩ (fun H locs hP hD hS => ?_)
            refine lv_eqi (y := nI (hldN N p)) (e_p6 h b (p := p) (by omega)) ?_
            refine h_sz (st := [.int (nI (snN (fun p => popN (hldN N p) 12) p))]) C hS hP hl.1 (c_L_size l G ca (m := (hldN N p)) (mkN_lt12 _ (by omega))) gL_areAll_L_size rfl rfl rfl hd_L_size ⟨Nat.le_of_ble_eq_true rfl, Nat.le_of_ble_eq_true rfl⟩ rfl rfl (Nat.le_of_ble_eq_true rfl) dL_areAll_92 ⟨Nat.le_of_ble_eq_true rfl, Nat.le_of_ble_eq_true rfl⟩ (fun H locs hP hS => ?_)
            refine lv_iadd hx hb dL_areAll_95 ?_
            refine lv_eqi (nI_add _ _) ?_
            refine lv_istore (lv' := [(5, .int (nI ((snN (fun p => popN (hldN N p) 12) p) + (popN (hldN N p) 12)))), (4, .int ((smD (s_cr v.1) p) + (s_cr v.1 p))), (3, .int (nI (n_dk N % 2 ^ (p + 1)))), (2, .int (nI (n_fz N % 2 ^ (p + 1)))), (1, .int (nI ((snN (n_wa N) p) + (n_wa N p)))), (8, .int (nI (n_wa N p))), (0, .ref B.1.1), (6, .int (nI 1)), (7, .int (nI p))]) hx hb dL_areAll_96 hl (by decide) rfl (fun ls hl => ?_)
            refine lv_aload_n hx hb dL_areAll_98 rfl (lv_at hl 6 rfl) ?_
            refine lv_iload hx hb dL_areAll_99 (lv_at hl 8 rfl) ?_
            refine h_op (st := []) C hS hP hD hl.1 (k_untilDry (p := p) (by omega)) gL_areAll_X4_untilDry rfl hd_untilDry ⟨Nat.le_of_ble_eq_true rfl, Nat.le_of_ble_eq_true rfl⟩ rfl rfl (Nat.le_of_ble_eq_true rfl) dL_areAll_101 ⟨Nat.le_of_ble_eq_true rfl, Nat.le_of_ble_eq_true rfl⟩ (fun H locs hP hD hS => ?_)
            refine lv_eqi (y := nI d) (by exact z2) ?_
            refine lv_istore (lv' := [(9, .int (nI d)), (5, .int (nI ((snN (fun p => popN (hldN N p) 12) p) + (popN (hldN N p) 12)))), (4, .int ((smD (s_cr v.1) p) + (s_cr v.1 p))), (3, .int (nI (n_dk N % 2 ^ (p + 1)))), (2, .int (nI (n_fz N % 2 ^ (p + 1)))), (1, .int (nI ((snN (n_wa N) p) + (n_wa N p)))), (8, .int (nI (n_wa N p))), (0, .ref B.1.1), (6, .int (nI 1)), (7, .int (nI p))]) hx hb dL_areAll_104 hl (by decide) rfl (fun ls hl => ?_)
            refine lv_iload hx hb dL_areAll_106 (lv_at hl 6 rfl) ?_
            refine lv_if_lt (tgt := 264) hx hb dL_areAll_108 (by decide) (fun c_181 => ?_) (fun c_181 => ?_)
            · skip
              exact absurd c_181 (nI_nlt (a := (n_wa N p)) (b := 0) (by omega) (by omega))
            · skip
              refine lv_iload hx hb dL_areAll_111 (lv_at hl 6 rfl) ?_
              refine lv_aload_n hx hb dL_areAll_113 rfl (lv_at hl 7 rfl) ?_
              refine lv_iload hx hb dL_areAll_114 (lv_at hl 9 rfl) ?_
              refine lv_iconst (v := nI 0) hx hb dL_areAll_116 (by decide) ?_
              refine h_op (st := [.int (nI (n_wa N p))]) C hS hP hD hl.1 (k_puddle (p := p) (by omega) (q := 0) (by decide)) gL_areAll_X4_puddle rfl hd_puddle ⟨Nat.le_of_ble_eq_true rfl, Nat.le_of_ble_eq_true rfl⟩ rfl rfl (Nat.le_of_ble_eq_true rfl) dL_areAll_117 ⟨Nat.le_of_ble_eq_true rfl, Nat.le_of_ble_eq_true rfl⟩ (fun H locs hP hD hS => ?_)
              refine lv_eqi (y := nI (n_br N p)) (e_p0 h (p := p) (by omega)) ?_
              refine lv_icmp_gt (tgt := 264) hx hb dL_areAll_120 (by decide) (fun c_182 => ?_) (fun c_182 => ?_)
              · skip
                exact absurd c_182 (nI_nlt (a := (n_br N p)) (b := (n_wa N p)) (by omega) (by omega))
              · skip
                refine lv_aload_n hx hb dL_areAll_123 rfl (lv_at hl 7 rfl) ?_
                refine lv_iload hx hb dL_areAll_124 (lv_at hl 9 rfl) ?_
                refine lv_iconst (v := nI 0) hx hb dL_areAll_126 (by decide) ?_
                refine h_op (st := []) C hS hP hD hl.1 (k_puddle (p := p) (by omega) (q := 0) (by decide)) gL_areAll_X4_puddle rfl hd_puddle ⟨Nat.le_of_ble_eq_true rfl, Nat.le_of_ble_eq_true rfl⟩ rfl rfl (Nat.le_of_ble_eq_true rfl) dL_areAll_127 ⟨Nat.le_of_ble_eq_true rfl, Nat.le_of_ble_eq_true rfl⟩ (fun H locs hP hD hS => ?_)
                refine lv_eqi (y := nI (n_br N p)) (e_p0 h (p := p) (by omega)) ?_
                refine lv_if_le (tgt := 264) hx hb dL_areAll_130 (by decide) (fun c_183 => ?_) (fun c_183 => ?_)
                · skip
                  exact absurd c_183 (nI_ge (a := 0) (b := (n_br N p)) (by omega) (by omega))
                · skip
                  refine lv_aload_n hx hb dL_areAll_133 rfl (lv_at hl 7 rfl) ?_
                  refine lv_iload hx hb dL_areAll_134 (lv_at hl 9 rfl) ?_
                  refine lv_iconst (v := nI 0) hx hb dL_areAll_136 (by decide) ?_
                  refine h_op (st := []) C hS hP hD hl.1 (k_puddle (p := p) (by omega) (q := 0) (by decide)) gL_areAll_X4_puddle rfl hd_puddle ⟨Nat.le_of_ble_eq_true rfl, Nat.le_of_ble_eq_true rfl⟩ rfl rfl (Nat.le_of_ble_eq_true rfl) dL_areAll_137 ⟨Nat.le_of_ble_eq_true rfl, Nat.le_of_ble_eq_true rfl⟩ (fun H locs hP hD hS => ?_)
                  refine lv_eqi (y := nI (n_br N p)) (e_p0 h (p := p) (by omega)) ?_
                  refine lv_bipush (v := nI 60) hx hb dL_areAll_140 (by decide) ?_
                  refine lv_icmp_gt (tgt := 264) hx hb dL_areAll_142 (by decide) (fun c_184 => ?_) (fun c_184 => ?_)
                  · skip
                    exact absurd c_184 (nI_nlt (a := 60) (b := (n_br N p)) (by omega) (by omega))
                  · skip
                    refine lv_aload_n hx hb dL_areAll_145 rfl (lv_at hl 7 rfl) ?_
                    refine lv_iload hx hb dL_areAll_146 (lv_at hl 9 rfl) ?_
                    refine lv_iconst (v := nI 2) hx hb dL_areAll_148 (by decide) ?_
                    refine h_op (st := []) C hS hP hD hl.1 (k_puddle (p := p) (by omega) (q := 2) (by decide)) gL_areAll_X4_puddle rfl hd_puddle ⟨Nat.le_of_ble_eq_true rfl, Nat.le_of_ble_eq_true rfl⟩ rfl rfl (Nat.le_of_ble_eq_true rfl) dL_areAll_149 ⟨Nat.le_of_ble_eq_true rfl, Nat.le_of_ble_eq_true rfl⟩ (fun H locs hP hD hS => ?_)
                    refine lv_eqi (y := nI (n_wa N p / 5)) (e_p2 h b (p := p) (by omega)) ?_
                    refine lv_iload hx hb dL_areAll_152 (lv_at hl 6 rfl) ?_
                    refine lv_iconst (v := nI 5) hx hb dL_areAll_154 (by decide) ?_
                    refine lv_idiv hx hb dL_areAll_155 (by decide) ?_
                    refine lv_eqi (pk_div (by omega) (by omega) (by omega)) ?_
                    refine lv_icmp_ne (tgt := 264) hx hb dL_areAll_156 (by decide) (fun c_185 => ?_) (fun c_185 => ?_)
                    · skip
                      exact absurd ((nI_eq (a := (n_wa N p / 5)) (b := ((n_wa N p) / 5)) (by omega) (by omega)).mpr (by omega)) c_185
                    · skip
                      refine lv_aload_n hx hb dL_areAll_159 rfl (lv_at hl 7 rfl) ?_
                      refine lv_iload hx hb dL_areAll_160 (lv_at hl 9 rfl) ?_
                      refine lv_iconst (v := nI 3) hx hb dL_areAll_162 (by decide) ?_
                      refine h_op (st := []) C hS hP hD hl.1 (k_puddle (p := p) (by omega) (q := 3) (by decide)) gL_areAll_X4_puddle rfl hd_puddle ⟨Nat.le_of_ble_eq_true rfl, Nat.le_of_ble_eq_true rfl⟩ rfl rfl (Nat.le_of_ble_eq_true rfl) dL_areAll_163 ⟨Nat.le_of_ble_eq_true rfl, Nat.le_of_ble_eq_true rfl⟩ (fun H locs hP hD hS => ?_)
                      refine lv_eqi (y := nI (bN (n_fz N) p)) (e_p3 h b (p := p) (by omega)) ?_
                      refine lv_if_lt (tgt := 264) hx hb dL_areAll_166 (by decide) (fun c_186 => ?_) (fun c_186 => ?_)
                      · skip
                        exact absurd c_186 (nI_nlt (a := (bN (n_fz N) p)) (b := 0) (by omega) (by omega))
                      · skip
                        refine lv_aload_n hx hb dL_areAll_169 rfl (lv_at hl 7 rfl) ?_
                        refine lv_iload hx hb dL_areAll_170 (lv_at hl 9 rfl) ?_
                        refine lv_iconst (v := nI 3) hx hb dL_areAll_172 (by decide) ?_
                        refine h_op (st := []) C hS hP hD hl.1 (k_puddle (p := p) (by omega) (q := 3) (by decide)) gL_areAll_X4_puddle rfl hd_puddle ⟨Nat.le_of_ble_eq_true rfl, Nat.le_of_ble_eq_true rfl⟩ rfl rfl (Nat.le_of_ble_eq_true rfl) dL_areAll_173 ⟨Nat.le_of_ble_eq_true rfl, Nat.le_of_ble_eq_true rfl⟩ (fun H locs hP hD hS => ?_)
                        refine lv_eqi (y := nI (bN (n_fz N) p)) (e_p3 h b (p := p) (by omega)) ?_
                        refine lv_iconst (v := nI 2) hx hb dL_areAll_176 (by decide) ?_
                        refine lv_icmp_ge (tgt := 264) hx hb dL_areAll_177 (by decide) (fun c_187 => ?_) (fun c_187 => ?_)
                        · skip
                          exact absurd c_187 (nI_ge (a := (bN (n_fz N) p)) (b := 2) (by omega) (by omega))
                        · skip
                          refine lv_aload_n hx hb dL_areAll_180 rfl (lv_at hl 7 rfl) ?_
                          refine lv_iload hx hb dL_areAll_181 (lv_at hl 9 rfl) ?_
                          refine lv_bipush (v := nI 6) hx hb dL_areAll_183 (by decide) ?_
                          refine h_op (st := []) C hS hP hD hl.1 (k_puddle (p := p) (by omega) (q := 6) (by decide)) gL_areAll_X4_puddle rfl hd_puddle ⟨Nat.le_of_ble_eq_true rfl, Nat.le_of_ble_eq_true rfl⟩ rfl rfl (Nat.le_of_ble_eq_true rfl) dL_areAll_185 ⟨Nat.le_of_ble_eq_true rfl, Nat.le_of_ble_eq_true rfl⟩ (fun H locs hP hD hS => ?_)
                          refine lv_eqi (y := nI (hldN N p)) (e_p6 h b (p := p) (by omega)) ?_
                          refine lv_if_lt (tgt := 264) hx hb dL_areAll_188 (by decide) (fun c_188 => ?_) (fun c_188 => ?_)
                          · skip
                            exact absurd c_188 (nI_nlt (a := (hldN N p)) (b := 0) (by omega) (by omega))
                          · skip
                            refine lv_aload_n hx hb dL_areAll_191 rfl (lv_at hl 7 rfl) ?_
                            refine lv_iload hx hb dL_areAll_192 (lv_at hl 9 rfl) ?_
                            refine lv_bipush (v := nI 6) hx hb dL_areAll_194 (by decide) ?_
                            refine h_op (st := []) C hS hP hD hl.1 (k_puddle (p := p) (by omega) (q := 6) (by decide)) gL_areAll_X4_puddle rfl hd_puddle ⟨Nat.le_of_ble_eq_true rfl, Nat.le_of_ble_eq_true rfl⟩ rfl rfl (Nat.le_of_ble_eq_true rfl) dL_areAll_196 ⟨Nat.le_of_ble_eq_true rfl, Nat.le_of_ble_eq_true rfl⟩ (fun H locs hP hD hS => ?_)
                            refine lv_eqi (y := nI (hldN N p)) (e_p6 h b (p := p) (by omega)) ?_
                            refine lv_bipush (v := nI 64) hx hb dL_areAll_199 (by decide) ?_
                            refine lv_icmp_ge (tgt := 264) hx hb dL_areAll_201 (by decide) (fun c_189 => ?_) (fun c_189 => ?_)
                            · skip
                              exact absurd c_189 (nI_ge (a := (hldN N p)) (b := 64) (by omega) (by omega))
                            · skip
                              refine lv_iload hx hb dL_areAll_204 (lv_at hl 0 rfl) ?_
                              refine lv_if_ne (tgt := 213) hx hb dL_areAll_206 (by decide) (fun c_190 => ?_) (fun c_190 => ?_)
                              · skip
                                refine lv_iconst (v := nI 0) hx hb dL_areAll_213 (by decide) ?_
                                refine lv_iload hx hb dL_areAll_214 (lv_at hl 6 rfl) ?_
                                refine lv_if_ne (tgt := 223) hx hb dL_areAll_216 (by decide) (fun c_191 => ?_) (fun c_191 => ?_)
                                · skip
                                  refine lv_iconst (v := nI 0) hx hb dL_areAll_223 (by decide) ?_
                                  refine lv_icmp_ne (tgt := 264) hx hb dL_areAll_224 (by decide) (fun c_192 => ?_) (fun c_192 => ?_)
                                  · skip
                                    exact absurd (by decide) c_192
                                  · skip
                                    refine lv_iload hx hb dL_areAll_227 (lv_at hl 0 rfl) ?_
                                    refine lv_bipush (v := (-6)) hx hb dL_areAll_229 (by decide) ?_
                                    refine lv_icmp_ne (tgt := 238) hx hb dL_areAll_231 (by decide) (fun c_193 => ?_) (fun c_193 => ?_)
                                    · skip
                                      refine lv_iconst (v := nI 0) hx hb dL_areAll_238 (by decide) ?_
                                      refine lv_iload hx hb dL_areAll_239 (lv_at hl 6 rfl) ?_
                                      refine lv_if_le (tgt := 256) hx hb dL_areAll_241 (by decide) (fun c_194 => ?_) (fun c_194 => ?_)
                                      · skip
                                        exact absurd c_194 (nI_ge (a := 0) (b := (n_wa N p)) (by omega) (by omega))
                                      · skip
                                        refine lv_aload_n hx hb dL_areAll_244 rfl (lv_at hl 7 rfl) ?_
                                        refine lv_iconst (v := nI 1) hx hb dL_areAll_245 (by decide) ?_
                                        refine h_op (st := [.int (nI 0)]) C hS hP hD hl.1 (k_count h0 (q := 1) (by decide)) gL_areAll_X4_count rfl hd_count ⟨Nat.le_of_ble_eq_true rfl, Nat.le_of_ble_eq_true rfl⟩ rfl rfl (Nat.le_of_ble_eq_true rfl) dL_areAll_246 ⟨Nat.le_of_ble_eq_true rfl, Nat.le_of_ble_eq_true rfl⟩ (fun H locs hP hD hS => ?_)
                                        refine lv_eqi (y := nI (n_se N 1)) (h.se 1 (by omega)) ?_
                                        refine lv_if_ne (tgt := 256) hx hb dL_areAll_249 (by decide) (fun c_195 => ?_) (fun c_195 => ?_)
                                        · skip
                                          refine lv_iconst (v := nI 0) hx hb dL_areAll_256 (by decide) ?_
                                          refine lv_icmp_ne (tgt := 264) hx hb dL_areAll_257 (by decide) (fun c_196 => ?_) (fun c_196 => ?_)
                                          · skip
                                            exact absurd (by decide) c_196
                                          · skip
                                            refine lv_iconst (v := nI 1) hx hb dL_areAll_260 (by decide) ?_
                                            refine lv_goto (tgt := 265) hx hb dL_areAll_261 (by decide) ?_
                                            refine lv_istore (lv' := [(6, .int (nI 1)), (9, .int (nI d)), (5, .int (nI ((snN (fun p => popN (hldN N p) 12) p) + (popN (hldN N p) 12)))), (4, .int ((smD (s_cr v.1) p) + (s_cr v.1 p))), (3, .int (nI (n_dk N % 2 ^ (p + 1)))), (2, .int (nI (n_fz N % 2 ^ (p + 1)))), (1, .int (nI ((snN (n_wa N) p) + (n_wa N p)))), (8, .int (nI (n_wa N p))), (0, .ref B.1.1), (7, .int (nI p))]) hx hb dL_areAll_265 hl (by decide) rfl (fun ls hl => ?_)
                                            refine lv_iinc (v := nI (p + 1)) (lv' := [(7, .int (nI (p + 1))), (6, .int (nI 1)), (9, .int (nI d)), (5, .int (nI ((snN (fun p => popN (hldN N p) 12) p) + (popN (hldN N p) 12)))), (4, .int ((smD (s_cr v.1) p) + (s_cr v.1 p))), (3, .int (nI (n_dk N % 2 ^ (p + 1)))), (2, .int (nI (n_fz N % 2 ^ (p + 1)))), (1, .int (nI ((snN (n_wa N) p) + (n_wa N p)))), (8, .int (nI (n_wa N p))), (0, .ref B.1.1)]) hx hb dL_areAll_267 hl (k := 9) rfl (nI_1 _) (by decide) rfl (fun ls hl => ?_)
                                            refine lv_goto (tgt := 18) hx hb dL_areAll_270 (by decide) ?_
                                            exact ih (p + 1) (by omega) _ _ _ hP (D_of hD rfl) hS (by rw [show (nI (snN (n_wa N) (p + 1))) = (nI ((snN (n_wa N) p) + (n_wa N p))) from by rfl, show (smD (s_cr v.1) (p + 1)) = ((smD (s_cr v.1) p) + (s_cr v.1 p)) from by rfl, show (nI (snN (fun p => popN (hldN N p) 12) (p + 1))) = (nI ((snN (fun p => popN (hldN N p) 12) p) + (popN (hldN N p) 12))) from by rfl]; exact lv_sub hl [9, 7, 6, 5, 4, 3, 1, 0] rfl)
                                        · skip
                                          exact absurd ((nI_eq (a := (n_se N 1)) (b := 0) (by omega) (by omega)).mp c_195) (by omega)
                                    · skip
                                      exact absurd c_193 (nI_n6 (by omega))
                                · skip
                                  exact absurd ((nI_eq (a := (n_wa N p)) (b := 0) (by omega) (by omega)).mp c_191) (by omega)
                              · skip
                                exact absurd ((nI_eq (a := d) (b := 0) (by omega) (by omega)).mp c_190) (by omega)
  exact loop_18 n12 0 (by omega) _ _ _ hP (D_of hD rfl) hS (by rw [show (nI (snN (n_wa N) 0)) = (nI 0) from by rfl, show (nI (n_fz N % 2 ^ 0)) = (nI 0) from by rw [Nat.pow_zero, Nat.mod_one], show (nI (n_dk N % 2 ^ 0)) = (nI 0) from by rw [Nat.pow_zero, Nat.mod_one], show (smD (s_cr v.1) 0) = (nI 0) from by rfl, show (nI (snN (fun p => popN (hldN N p) 12) 0)) = (nI 0) from by rfl]; exact lv_sub hl [7, 6, 5, 4, 3, 2, 1, 0] rfl)
