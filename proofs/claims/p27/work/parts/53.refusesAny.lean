/-! the law's helpers refusesAny and refuses -/
theorem neg_99 : ∀ q, q < 99 → ((-1) - nI q : Int32) < 0 := by decide +kernel
theorem dk_1 {b : Int32} {p : Nat} (h : ¬ bt1 b p = 0) : ((b >>> (nI p &&& 31)) &&& nI 1) = nI 1 := by
  unfold bt1 at h
  by_cases c : ((b >>> (nI p &&& 31)) &&& 1) = 1
  · exact c
  · rw [if_neg c] at h; exact absurd rfl h
theorem dk_0 {b : Int32} {p : Nat} (h : bt1 b p = 0) : ¬ ((b >>> (nI p &&& 31)) &&& nI 1) = nI 1 := by
  intro c
  unfold bt1 at h
  rw [if_pos (show ((b >>> (nI p &&& 31)) &&& 1) = 1 from c)] at h
  exact absurd h (by decide)
set_option maxHeartbeats 4000000 in
set_option maxRecDepth 100000 in
theorem c_L_refusesAny (l : Launch) (G : va_G) (ca : Nat → ClassId) (tL tM : Nat) (B : AD) (v : VV) (X : Nat) (hX : X < 2 ^ 31) (h0 : v.2.2.1 = 0) : CtS l yL_refusesAny wsL_refusesAny rmA [.ref B.1.1, .int (nI X)] G ca tL tM (XV ca B v) (XV ca B v) (nI 1) := by
  refine CtS.ofW (cc := cL_refusesAny) (maxL := 7) (rt := .boolean) (by decide) rfl (Nat.le_of_ble_eq_true rfl) rfl ?_
  intro pr en s m be me c A ls Q H hx hb hml hts hown hev hP hD hA hS hl hX hret
  have C : HC pr s m c cL_refusesAny ([.ref B.1.1, .int (nI X)] : List Value).toArray wsL_refusesAny 7 G ca tL tM A := ⟨hx, hb, hml, hown, hts, hev, hX, hA⟩
  have hown : s.vm.findClass RL = some m.cls := hown
  have hl : lv_has ls 7 [(0, .ref B.1.1), (1, .int (nI X))] := hl
  rcases (show X % 2 = 0 ∨ X % 2 = 1 by omega) with hq | hq
  · skip
    by_cases hd : bt1 (s_dk v.1) (X % 12) = 0
    · skip
      refine lv_iload_n hx hb dL_refusesAny_0 rfl (lv_at hl 1 rfl) ?_
      refine lv_iconst (v := nI 2) hx hb dL_refusesAny_1 (by decide) ?_
      refine lv_irem hx hb dL_refusesAny_2 (by decide) ?_
      refine lv_eqi (pk_rem (by omega) (by omega) (by omega)) ?_
      refine lv_if_ne (tgt := 15) hx hb dL_refusesAny_3 (by decide) (fun c_1 => ?_) (fun c_1 => ?_)
      · skip
        exact absurd ((nI_eq (a := (X % 2)) (b := 0) (by omega) (by omega)).mpr (by omega)) c_1
      · skip
        refine lv_iconst (v := (-1)) hx hb dL_refusesAny_6 (by decide) ?_
        refine lv_iload_n hx hb dL_refusesAny_7 rfl (lv_at hl 1 rfl) ?_
        refine lv_bipush (v := nI 99) hx hb dL_refusesAny_8 (by decide) ?_
        refine lv_irem hx hb dL_refusesAny_10 (by decide) ?_
        refine lv_eqi (pk_rem (by omega) (by omega) (by omega)) ?_
        refine lv_isub hx hb dL_refusesAny_11 ?_
        refine lv_goto (tgt := 22) hx hb dL_refusesAny_12 (by decide) ?_
        obtain ⟨pu, hpu⟩ : ∃ x : Int32, x = (-1) - (nI (X % 99)) := ⟨_, rfl⟩
        refine lv_eqi hpu.symm ?_
        have hpub : pu < 0 ∨ nI 12 ≤ pu := Or.inl (by rw [hpu]; exact neg_99 _ (by omega))
        refine lv_istore_n (lv' := [(2, .int pu), (0, .ref B.1.1), (1, .int (nI X))]) hx hb dL_refusesAny_22 rfl hl (by decide) rfl (fun ls hl => ?_)
        refine lv_iload_n hx hb dL_refusesAny_23 rfl (lv_at hl 2 rfl) ?_
        refine lv_iconst (v := nI 2) hx hb dL_refusesAny_24 (by decide) ?_
        refine lv_irem hx hb dL_refusesAny_25 (by decide) ?_
        refine lv_eqi (pk_rem (by omega) (by omega) (by omega)) ?_
        refine lv_if_ne (tgt := 38) hx hb dL_refusesAny_26 (by decide) (fun c_2 => ?_) (fun c_2 => ?_)
        · skip
          exact absurd ((nI_eq (a := (X % 2)) (b := 0) (by omega) (by omega)).mpr (by omega)) c_2
        · skip
          refine lv_iconst (v := (-1)) hx hb dL_refusesAny_29 (by decide) ?_
          refine lv_iload_n hx hb dL_refusesAny_30 rfl (lv_at hl 2 rfl) ?_
          refine lv_bipush (v := nI 99) hx hb dL_refusesAny_31 (by decide) ?_
          refine lv_irem hx hb dL_refusesAny_33 (by decide) ?_
          refine lv_eqi (pk_rem (by omega) (by omega) (by omega)) ?_
          refine lv_isub hx hb dL_refusesAny_34 ?_
          refine lv_goto (tgt := 45) hx hb dL_refusesAny_35 (by decide) ?_
          obtain ⟨wk, hwk⟩ : ∃ x : Int32, x = (-1) - (nI (X % 99)) := ⟨_, rfl⟩
          refine lv_eqi hwk.symm ?_
          have hwkb : wk < 0 ∨ nI 6 ≤ wk := Or.inl (by rw [hwk]; exact neg_99 _ (by omega))
          refine lv_istore_n (lv' := [(3, .int wk), (2, .int pu), (0, .ref B.1.1), (1, .int (nI X))]) hx hb dL_refusesAny_45 rfl hl (by decide) rfl (fun ls hl => ?_)
          refine lv_iload_n hx hb dL_refusesAny_46 rfl (lv_at hl 3 rfl) ?_
          refine lv_bipush (v := nI 12) hx hb dL_refusesAny_47 (by decide) ?_
          refine lv_irem hx hb dL_refusesAny_49 (by decide) ?_
          refine lv_eqi (pk_rem (by omega) (by omega) (by omega)) ?_
          refine lv_istore (lv' := [(4, .int (nI (X % 12))), (3, .int wk), (2, .int pu), (0, .ref B.1.1), (1, .int (nI X))]) hx hb dL_refusesAny_50 hl (by decide) rfl (fun ls hl => ?_)
          refine lv_aload_n hx hb dL_refusesAny_52 rfl (lv_at hl 3 rfl) ?_
          refine lv_bipush (v := nI 10) hx hb dL_refusesAny_53 (by decide) ?_
          refine h_op (st := []) C hS hP hD hl.1 (k_count h0 (q := 10) (by decide)) gL_refusesAny_X4_count rfl hd_count ⟨Nat.le_of_ble_eq_true rfl, Nat.le_of_ble_eq_true rfl⟩ rfl rfl (Nat.le_of_ble_eq_true rfl) dL_refusesAny_55 ⟨Nat.le_of_ble_eq_true rfl, Nat.le_of_ble_eq_true rfl⟩ (fun H locs hP hD hS => ?_)
          refine lv_eqi (y := s_dk v.1) (rfl) ?_
          refine lv_iload hx hb dL_refusesAny_58 (lv_at hl 0 rfl) ?_
          refine lv_ishr hx hb dL_refusesAny_60 ?_
          refine lv_iconst (v := nI 1) hx hb dL_refusesAny_61 (by decide) ?_
          refine lv_iand hx hb dL_refusesAny_62 ?_
          refine lv_iconst (v := nI 1) hx hb dL_refusesAny_63 (by decide) ?_
          refine lv_icmp_ne (tgt := 71) hx hb dL_refusesAny_64 (by decide) (fun c_3 => ?_) (fun c_3 => ?_)
          · skip
            refine lv_iconst (v := nI 0) hx hb dL_refusesAny_71 (by decide) ?_
            refine lv_istore (lv' := [(5, .int (nI 0)), (4, .int (nI (X % 12))), (3, .int wk), (2, .int pu), (0, .ref B.1.1), (1, .int (nI X))]) hx hb dL_refusesAny_72 hl (by decide) rfl (fun ls hl => ?_)
            refine lv_aload_n hx hb dL_refusesAny_74 rfl (lv_at hl 4 rfl) ?_
            refine lv_iload_n hx hb dL_refusesAny_75 rfl (lv_at hl 5 rfl) ?_
            refine lv_iconst (v := nI 2) hx hb dL_refusesAny_76 (by decide) ?_
            refine lv_irem hx hb dL_refusesAny_77 (by decide) ?_
            refine lv_eqi (pk_rem (by omega) (by omega) (by omega)) ?_
            refine lv_if_ne (tgt := 85) hx hb dL_refusesAny_78 (by decide) (fun c_4 => ?_) (fun c_4 => ?_)
            · skip
              exact absurd ((nI_eq (a := (X % 2)) (b := 0) (by omega) (by omega)).mpr (by omega)) c_4
            · skip
              refine lv_iconst (v := (-1)) hx hb dL_refusesAny_81 (by decide) ?_
              refine lv_goto (tgt := 86) hx hb dL_refusesAny_82 (by decide) ?_
              refine lv_iconst (v := nI 5) hx hb dL_refusesAny_86 (by decide) ?_
              refine h_op (st := []) C hS hP hD hl.1 (k_set_out (-1) (nI 5) (by decide)) gL_refusesAny_X4_set rfl hd_set ⟨Nat.le_of_ble_eq_true rfl, Nat.le_of_ble_eq_true rfl⟩ rfl rfl (Nat.le_of_ble_eq_true rfl) dL_refusesAny_87 ⟨Nat.le_of_ble_eq_true rfl, Nat.le_of_ble_eq_true rfl⟩ (fun H locs hP hD hS => ?_)
              refine lv_bipush (v := (-2)) hx hb dL_refusesAny_90 (by decide) ?_
              refine lv_icmp_ne (tgt := 372) hx hb dL_refusesAny_92 (by decide) (fun c_5 => ?_) (fun c_5 => ?_)
              · skip
                exact absurd (by decide) c_5
              · skip
                refine lv_aload_n hx hb dL_refusesAny_95 rfl (lv_at hl 4 rfl) ?_
                refine lv_iconst (v := nI 0) hx hb dL_refusesAny_96 (by decide) ?_
                refine lv_iload_n hx hb dL_refusesAny_97 rfl (lv_at hl 5 rfl) ?_
                refine lv_iconst (v := nI 2) hx hb dL_refusesAny_98 (by decide) ?_
                refine lv_irem hx hb dL_refusesAny_99 (by decide) ?_
                refine lv_eqi (pk_rem (by omega) (by omega) (by omega)) ?_
                refine lv_if_ne (tgt := 107) hx hb dL_refusesAny_100 (by decide) (fun c_6 => ?_) (fun c_6 => ?_)
                · skip
                  exact absurd ((nI_eq (a := (X % 2)) (b := 0) (by omega) (by omega)).mpr (by omega)) c_6
                · skip
                  refine lv_iconst (v := (-1)) hx hb dL_refusesAny_103 (by decide) ?_
                  refine lv_goto (tgt := 109) hx hb dL_refusesAny_104 (by decide) ?_
                  refine h_op (st := []) C hS hP hD hl.1 (k_set_bad (k := 0) (by decide) (-1) (by decide)) gL_refusesAny_X4_set rfl hd_set ⟨Nat.le_of_ble_eq_true rfl, Nat.le_of_ble_eq_true rfl⟩ rfl rfl (Nat.le_of_ble_eq_true rfl) dL_refusesAny_109 ⟨Nat.le_of_ble_eq_true rfl, Nat.le_of_ble_eq_true rfl⟩ (fun H locs hP hD hS => ?_)
                  refine lv_bipush (v := (-2)) hx hb dL_refusesAny_112 (by decide) ?_
                  refine lv_icmp_ne (tgt := 372) hx hb dL_refusesAny_114 (by decide) (fun c_7 => ?_) (fun c_7 => ?_)
                  · skip
                    exact absurd (by decide) c_7
                  · skip
                    refine lv_aload_n hx hb dL_refusesAny_117 rfl (lv_at hl 4 rfl) ?_
                    refine lv_iconst (v := nI 1) hx hb dL_refusesAny_118 (by decide) ?_
                    refine lv_iload_n hx hb dL_refusesAny_119 rfl (lv_at hl 5 rfl) ?_
                    refine lv_iconst (v := nI 2) hx hb dL_refusesAny_120 (by decide) ?_
                    refine lv_irem hx hb dL_refusesAny_121 (by decide) ?_
                    refine lv_eqi (pk_rem (by omega) (by omega) (by omega)) ?_
                    refine lv_if_ne (tgt := 129) hx hb dL_refusesAny_122 (by decide) (fun c_8 => ?_) (fun c_8 => ?_)
                    · skip
                      exact absurd ((nI_eq (a := (X % 2)) (b := 0) (by omega) (by omega)).mpr (by omega)) c_8
                    · skip
                      refine lv_iconst (v := (-1)) hx hb dL_refusesAny_125 (by decide) ?_
                      refine lv_goto (tgt := 131) hx hb dL_refusesAny_126 (by decide) ?_
                      refine h_op (st := []) C hS hP hD hl.1 (k_set_bad (k := 1) (by decide) (-1) (by decide)) gL_refusesAny_X4_set rfl hd_set ⟨Nat.le_of_ble_eq_true rfl, Nat.le_of_ble_eq_true rfl⟩ rfl rfl (Nat.le_of_ble_eq_true rfl) dL_refusesAny_131 ⟨Nat.le_of_ble_eq_true rfl, Nat.le_of_ble_eq_true rfl⟩ (fun H locs hP hD hS => ?_)
                      refine lv_bipush (v := (-2)) hx hb dL_refusesAny_134 (by decide) ?_
                      refine lv_icmp_ne (tgt := 372) hx hb dL_refusesAny_136 (by decide) (fun c_9 => ?_) (fun c_9 => ?_)
                      · skip
                        exact absurd (by decide) c_9
                      · skip
                        refine lv_aload_n hx hb dL_refusesAny_139 rfl (lv_at hl 4 rfl) ?_
                        refine lv_iconst (v := nI 2) hx hb dL_refusesAny_140 (by decide) ?_
                        refine lv_iload_n hx hb dL_refusesAny_141 rfl (lv_at hl 5 rfl) ?_
                        refine lv_iconst (v := nI 2) hx hb dL_refusesAny_142 (by decide) ?_
                        refine lv_irem hx hb dL_refusesAny_143 (by decide) ?_
                        refine lv_eqi (pk_rem (by omega) (by omega) (by omega)) ?_
                        refine lv_if_ne (tgt := 151) hx hb dL_refusesAny_144 (by decide) (fun c_10 => ?_) (fun c_10 => ?_)
                        · skip
                          exact absurd ((nI_eq (a := (X % 2)) (b := 0) (by omega) (by omega)).mpr (by omega)) c_10
                        · skip
                          refine lv_iconst (v := nI 0) hx hb dL_refusesAny_147 (by decide) ?_
                          refine lv_goto (tgt := 153) hx hb dL_refusesAny_148 (by decide) ?_
                          refine h_op (st := []) C hS hP hD hl.1 (k_set_bad (k := 2) (by decide) (nI 0) (by decide)) gL_refusesAny_X4_set rfl hd_set ⟨Nat.le_of_ble_eq_true rfl, Nat.le_of_ble_eq_true rfl⟩ rfl rfl (Nat.le_of_ble_eq_true rfl) dL_refusesAny_153 ⟨Nat.le_of_ble_eq_true rfl, Nat.le_of_ble_eq_true rfl⟩ (fun H locs hP hD hS => ?_)
                          refine lv_bipush (v := (-2)) hx hb dL_refusesAny_156 (by decide) ?_
                          refine lv_icmp_ne (tgt := 372) hx hb dL_refusesAny_158 (by decide) (fun c_11 => ?_) (fun c_11 => ?_)
                          · skip
                            exact absurd (by decide) c_11
                          · skip
                            refine lv_aload_n hx hb dL_refusesAny_161 rfl (lv_at hl 4 rfl) ?_
                            refine lv_iconst (v := nI 3) hx hb dL_refusesAny_162 (by decide) ?_
                            refine lv_iload_n hx hb dL_refusesAny_163 rfl (lv_at hl 5 rfl) ?_
                            refine lv_iconst (v := nI 2) hx hb dL_refusesAny_164 (by decide) ?_
                            refine lv_irem hx hb dL_refusesAny_165 (by decide) ?_
                            refine lv_eqi (pk_rem (by omega) (by omega) (by omega)) ?_
                            refine lv_if_ne (tgt := 173) hx hb dL_refusesAny_166 (by decide) (fun c_12 => ?_) (fun c_12 => ?_)
                            · skip
                              exact absurd ((nI_eq (a := (X % 2)) (b := 0) (by omega) (by omega)).mpr (by omega)) c_12
                            · skip
                              refine lv_iconst (v := nI 0) hx hb dL_refusesAny_169 (by decide) ?_
                              refine lv_goto (tgt := 175) hx hb dL_refusesAny_170 (by decide) ?_
                              refine h_op (st := []) C hS hP hD hl.1 (k_set_bad (k := 3) (by decide) (nI 0) (by decide)) gL_refusesAny_X4_set rfl hd_set ⟨Nat.le_of_ble_eq_true rfl, Nat.le_of_ble_eq_true rfl⟩ rfl rfl (Nat.le_of_ble_eq_true rfl) dL_refusesAny_175 ⟨Nat.le_of_ble_eq_true rfl, Nat.le_of_ble_eq_true rfl⟩ (fun H locs hP hD hS => ?_)
                              refine lv_bipush (v := (-2)) hx hb dL_refusesAny_178 (by decide) ?_
                              refine lv_icmp_ne (tgt := 372) hx hb dL_refusesAny_180 (by decide) (fun c_13 => ?_) (fun c_13 => ?_)
                              · skip
                                exact absurd (by decide) c_13
                              · skip
                                refine lv_aload_n hx hb dL_refusesAny_183 rfl (lv_at hl 4 rfl) ?_
                                refine lv_iload_n hx hb dL_refusesAny_184 rfl (lv_at hl 3 rfl) ?_
                                refine lv_iconst (v := nI 0) hx hb dL_refusesAny_185 (by decide) ?_
                                refine h_op (st := []) C hS hP hD hl.1 (k_brim_out pu (nI 0) hpub) gL_refusesAny_X4_brim rfl hd_brim ⟨Nat.le_of_ble_eq_true rfl, Nat.le_of_ble_eq_true rfl⟩ rfl rfl (Nat.le_of_ble_eq_true rfl) dL_refusesAny_186 ⟨Nat.le_of_ble_eq_true rfl, Nat.le_of_ble_eq_true rfl⟩ (fun H locs hP hD hS => ?_)
                                refine lv_iconst (v := (-1)) hx hb dL_refusesAny_189 (by decide) ?_
                                refine lv_icmp_ne (tgt := 372) hx hb dL_refusesAny_190 (by decide) (fun c_14 => ?_) (fun c_14 => ?_)
                                · skip
                                  exact absurd (by decide) c_14
                                · skip
                                  refine lv_aload_n hx hb dL_refusesAny_193 rfl (lv_at hl 4 rfl) ?_
                                  refine lv_iload hx hb dL_refusesAny_194 (lv_at hl 1 rfl) ?_
                                  refine lv_iload_n hx hb dL_refusesAny_196 rfl (lv_at hl 5 rfl) ?_
                                  refine lv_iconst (v := nI 2) hx hb dL_refusesAny_197 (by decide) ?_
                                  refine lv_irem hx hb dL_refusesAny_198 (by decide) ?_
                                  refine lv_eqi (pk_rem (by omega) (by omega) (by omega)) ?_
                                  refine lv_if_ne (tgt := 206) hx hb dL_refusesAny_199 (by decide) (fun c_15 => ?_) (fun c_15 => ?_)
                                  · skip
                                    exact absurd ((nI_eq (a := (X % 2)) (b := 0) (by omega) (by omega)).mpr (by omega)) c_15
                                  · skip
                                    refine lv_iconst (v := nI 0) hx hb dL_refusesAny_202 (by decide) ?_
                                    refine lv_goto (tgt := 208) hx hb dL_refusesAny_203 (by decide) ?_
                                    refine h_op (st := []) C hS hP hD hl.1 (k_brim_bad (p := X % 12) (by omega) (nI 0) (by decide)) gL_refusesAny_X4_brim rfl hd_brim ⟨Nat.le_of_ble_eq_true rfl, Nat.le_of_ble_eq_true rfl⟩ rfl rfl (Nat.le_of_ble_eq_true rfl) dL_refusesAny_208 ⟨Nat.le_of_ble_eq_true rfl, Nat.le_of_ble_eq_true rfl⟩ (fun H locs hP hD hS => ?_)
                                    refine lv_bipush (v := (-2)) hx hb dL_refusesAny_211 (by decide) ?_
                                    refine lv_icmp_ne (tgt := 372) hx hb dL_refusesAny_213 (by decide) (fun c_16 => ?_) (fun c_16 => ?_)
                                    · skip
                                      exact absurd (by decide) c_16
                                    · skip
                                      refine lv_aload_n hx hb dL_refusesAny_216 rfl (lv_at hl 4 rfl) ?_
                                      refine lv_iload_n hx hb dL_refusesAny_217 rfl (lv_at hl 3 rfl) ?_
                                      refine h_op (st := []) C hS hP hD hl.1 (k_drain_out pu hpub) gL_refusesAny_X4_drain rfl hd_drain ⟨Nat.le_of_ble_eq_true rfl, Nat.le_of_ble_eq_true rfl⟩ rfl rfl (Nat.le_of_ble_eq_true rfl) dL_refusesAny_218 ⟨Nat.le_of_ble_eq_true rfl, Nat.le_of_ble_eq_true rfl⟩ (fun H locs hP hD hS => ?_)
                                      refine lv_iconst (v := (-1)) hx hb dL_refusesAny_221 (by decide) ?_
                                      refine lv_icmp_ne (tgt := 372) hx hb dL_refusesAny_222 (by decide) (fun c_17 => ?_) (fun c_17 => ?_)
                                      · skip
                                        exact absurd (by decide) c_17
                                      · skip
                                        refine lv_iload hx hb dL_refusesAny_225 (lv_at hl 0 rfl) ?_
                                        refine lv_if_eq (tgt := 253) hx hb dL_refusesAny_227 (by decide) (fun c_18 => ?_) (fun c_18 => ?_)
                                        · skip
                                          refine lv_aload_n hx hb dL_refusesAny_253 rfl (lv_at hl 4 rfl) ?_
                                          refine lv_iload_n hx hb dL_refusesAny_254 rfl (lv_at hl 2 rfl) ?_
                                          refine lv_bipush (v := nI 9) hx hb dL_refusesAny_255 (by decide) ?_
                                          refine h_op (st := []) C hS hP hD hl.1 (k_shoes_out wk (nI 9) hwkb) gL_refusesAny_X4_shoes rfl hd_shoes ⟨Nat.le_of_ble_eq_true rfl, Nat.le_of_ble_eq_true rfl⟩ rfl rfl (Nat.le_of_ble_eq_true rfl) dL_refusesAny_257 ⟨Nat.le_of_ble_eq_true rfl, Nat.le_of_ble_eq_true rfl⟩ (fun H locs hP hD hS => ?_)
                                          refine lv_iconst (v := (-1)) hx hb dL_refusesAny_260 (by decide) ?_
                                          refine lv_icmp_ne (tgt := 372) hx hb dL_refusesAny_261 (by decide) (fun c_19 => ?_) (fun c_19 => ?_)
                                          · skip
                                            exact absurd (by decide) c_19
                                          · skip
                                            refine lv_aload_n hx hb dL_refusesAny_264 rfl (lv_at hl 4 rfl) ?_
                                            refine lv_iconst (v := nI 0) hx hb dL_refusesAny_265 (by decide) ?_
                                            refine lv_iload_n hx hb dL_refusesAny_266 rfl (lv_at hl 5 rfl) ?_
                                            refine lv_iconst (v := nI 2) hx hb dL_refusesAny_267 (by decide) ?_
                                            refine lv_irem hx hb dL_refusesAny_268 (by decide) ?_
                                            refine lv_eqi (pk_rem (by omega) (by omega) (by omega)) ?_
                                            refine lv_if_ne (tgt := 276) hx hb dL_refusesAny_269 (by decide) (fun c_20 => ?_) (fun c_20 => ?_)
                                            · skip
                                              exact absurd ((nI_eq (a := (X % 2)) (b := 0) (by omega) (by omega)).mpr (by omega)) c_20
                                            · skip
                                              refine lv_iconst (v := (-1)) hx hb dL_refusesAny_272 (by decide) ?_
                                              refine lv_goto (tgt := 277) hx hb dL_refusesAny_273 (by decide) ?_
                                              refine h_op (st := []) C hS hP hD hl.1 (k_shoes_bad (w := 0) (by omega) (-1) (by decide)) gL_refusesAny_X4_shoes rfl hd_shoes ⟨Nat.le_of_ble_eq_true rfl, Nat.le_of_ble_eq_true rfl⟩ rfl rfl (Nat.le_of_ble_eq_true rfl) dL_refusesAny_277 ⟨Nat.le_of_ble_eq_true rfl, Nat.le_of_ble_eq_true rfl⟩ (fun H locs hP hD hS => ?_)
                                              refine lv_bipush (v := (-2)) hx hb dL_refusesAny_280 (by decide) ?_
                                              refine lv_icmp_ne (tgt := 372) hx hb dL_refusesAny_282 (by decide) (fun c_21 => ?_) (fun c_21 => ?_)
                                              · skip
                                                exact absurd (by decide) c_21
                                              · skip
                                                refine lv_aload_n hx hb dL_refusesAny_285 rfl (lv_at hl 4 rfl) ?_
                                                refine lv_iload_n hx hb dL_refusesAny_286 rfl (lv_at hl 2 rfl) ?_
                                                refine lv_iconst (v := nI 0) hx hb dL_refusesAny_287 (by decide) ?_
                                                refine h_op (st := []) C hS hP hD hl.1 (k_permit_outw wk (nI 0) hwkb) gL_refusesAny_X4_permit rfl hd_permit ⟨Nat.le_of_ble_eq_true rfl, Nat.le_of_ble_eq_true rfl⟩ rfl rfl (Nat.le_of_ble_eq_true rfl) dL_refusesAny_288 ⟨Nat.le_of_ble_eq_true rfl, Nat.le_of_ble_eq_true rfl⟩ (fun H locs hP hD hS => ?_)
                                                refine lv_iconst (v := (-1)) hx hb dL_refusesAny_291 (by decide) ?_
                                                refine lv_icmp_ne (tgt := 372) hx hb dL_refusesAny_292 (by decide) (fun c_22 => ?_) (fun c_22 => ?_)
                                                · skip
                                                  exact absurd (by decide) c_22
                                                · skip
                                                  refine lv_aload_n hx hb dL_refusesAny_295 rfl (lv_at hl 4 rfl) ?_
                                                  refine lv_iconst (v := nI 0) hx hb dL_refusesAny_296 (by decide) ?_
                                                  refine lv_iload_n hx hb dL_refusesAny_297 rfl (lv_at hl 3 rfl) ?_
                                                  refine h_op (st := []) C hS hP hD hl.1 (k_permit_outp (w := 0) (by omega) pu hpub) gL_refusesAny_X4_permit rfl hd_permit ⟨Nat.le_of_ble_eq_true rfl, Nat.le_of_ble_eq_true rfl⟩ rfl rfl (Nat.le_of_ble_eq_true rfl) dL_refusesAny_298 ⟨Nat.le_of_ble_eq_true rfl, Nat.le_of_ble_eq_true rfl⟩ (fun H locs hP hD hS => ?_)
                                                  refine lv_iconst (v := (-1)) hx hb dL_refusesAny_301 (by decide) ?_
                                                  refine lv_icmp_ne (tgt := 372) hx hb dL_refusesAny_302 (by decide) (fun c_23 => ?_) (fun c_23 => ?_)
                                                  · skip
                                                    exact absurd (by decide) c_23
                                                  · skip
                                                    refine lv_aload_n hx hb dL_refusesAny_305 rfl (lv_at hl 4 rfl) ?_
                                                    refine lv_iload_n hx hb dL_refusesAny_306 rfl (lv_at hl 2 rfl) ?_
                                                    refine lv_iconst (v := nI 0) hx hb dL_refusesAny_307 (by decide) ?_
                                                    refine lv_iconst (v := nI 0) hx hb dL_refusesAny_308 (by decide) ?_
                                                    refine h_op (st := []) C hS hP hD hl.1 (k_walk_outw wk (nI 0) (nI 0) hwkb) gL_refusesAny_X4_walk rfl hd_walk ⟨Nat.le_of_ble_eq_true rfl, Nat.le_of_ble_eq_true rfl⟩ rfl rfl (Nat.le_of_ble_eq_true rfl) dL_refusesAny_309 ⟨Nat.le_of_ble_eq_true rfl, Nat.le_of_ble_eq_true rfl⟩ (fun H locs hP hD hS => ?_)
                                                    refine lv_iconst (v := (-1)) hx hb dL_refusesAny_312 (by decide) ?_
                                                    refine lv_icmp_ne (tgt := 372) hx hb dL_refusesAny_313 (by decide) (fun c_24 => ?_) (fun c_24 => ?_)
                                                    · skip
                                                      exact absurd (by decide) c_24
                                                    · skip
                                                      refine lv_aload_n hx hb dL_refusesAny_316 rfl (lv_at hl 4 rfl) ?_
                                                      refine lv_iconst (v := nI 0) hx hb dL_refusesAny_317 (by decide) ?_
                                                      refine lv_iload_n hx hb dL_refusesAny_318 rfl (lv_at hl 3 rfl) ?_
                                                      refine lv_iconst (v := nI 0) hx hb dL_refusesAny_319 (by decide) ?_
                                                      refine h_op (st := []) C hS hP hD hl.1 (k_walk_outf (w := 0) (by omega) pu (nI 0) hpub) gL_refusesAny_X4_walk rfl hd_walk ⟨Nat.le_of_ble_eq_true rfl, Nat.le_of_ble_eq_true rfl⟩ rfl rfl (Nat.le_of_ble_eq_true rfl) dL_refusesAny_320 ⟨Nat.le_of_ble_eq_true rfl, Nat.le_of_ble_eq_true rfl⟩ (fun H locs hP hD hS => ?_)
                                                      refine lv_iconst (v := (-1)) hx hb dL_refusesAny_323 (by decide) ?_
                                                      refine lv_icmp_ne (tgt := 372) hx hb dL_refusesAny_324 (by decide) (fun c_25 => ?_) (fun c_25 => ?_)
                                                      · skip
                                                        exact absurd (by decide) c_25
                                                      · skip
                                                        refine lv_aload_n hx hb dL_refusesAny_327 rfl (lv_at hl 4 rfl) ?_
                                                        refine lv_iconst (v := nI 0) hx hb dL_refusesAny_328 (by decide) ?_
                                                        refine lv_iconst (v := nI 0) hx hb dL_refusesAny_329 (by decide) ?_
                                                        refine lv_iload_n hx hb dL_refusesAny_330 rfl (lv_at hl 3 rfl) ?_
                                                        refine h_op (st := []) C hS hP hD hl.1 (k_walk_outt (w := 0) (f := 0) (by omega) (by omega) pu hpub) gL_refusesAny_X4_walk rfl hd_walk ⟨Nat.le_of_ble_eq_true rfl, Nat.le_of_ble_eq_true rfl⟩ rfl rfl (Nat.le_of_ble_eq_true rfl) dL_refusesAny_331 ⟨Nat.le_of_ble_eq_true rfl, Nat.le_of_ble_eq_true rfl⟩ (fun H locs hP hD hS => ?_)
                                                        refine lv_iconst (v := (-1)) hx hb dL_refusesAny_334 (by decide) ?_
                                                        refine lv_icmp_ne (tgt := 372) hx hb dL_refusesAny_335 (by decide) (fun c_26 => ?_) (fun c_26 => ?_)
                                                        · skip
                                                          exact absurd (by decide) c_26
                                                        · skip
                                                          refine lv_aload_n hx hb dL_refusesAny_338 rfl (lv_at hl 4 rfl) ?_
                                                          refine lv_iload_n hx hb dL_refusesAny_339 rfl (lv_at hl 2 rfl) ?_
                                                          refine h_op (st := []) C hS hP hD hl.1 (k_pay_out wk hwkb) gL_refusesAny_X4_pay rfl hd_pay ⟨Nat.le_of_ble_eq_true rfl, Nat.le_of_ble_eq_true rfl⟩ rfl rfl (Nat.le_of_ble_eq_true rfl) dL_refusesAny_340 ⟨Nat.le_of_ble_eq_true rfl, Nat.le_of_ble_eq_true rfl⟩ (fun H locs hP hD hS => ?_)
                                                          refine lv_iconst (v := (-1)) hx hb dL_refusesAny_343 (by decide) ?_
                                                          refine lv_icmp_ne (tgt := 372) hx hb dL_refusesAny_344 (by decide) (fun c_27 => ?_) (fun c_27 => ?_)
                                                          · skip
                                                            exact absurd (by decide) c_27
                                                          · skip
                                                            refine lv_aload_n hx hb dL_refusesAny_347 rfl (lv_at hl 4 rfl) ?_
                                                            refine lv_iload_n hx hb dL_refusesAny_348 rfl (lv_at hl 5 rfl) ?_
                                                            refine lv_iconst (v := nI 2) hx hb dL_refusesAny_349 (by decide) ?_
                                                            refine lv_irem hx hb dL_refusesAny_350 (by decide) ?_
                                                            refine lv_eqi (pk_rem (by omega) (by omega) (by omega)) ?_
                                                            refine lv_if_ne (tgt := 358) hx hb dL_refusesAny_351 (by decide) (fun c_28 => ?_) (fun c_28 => ?_)
                                                            · skip
                                                              exact absurd ((nI_eq (a := (X % 2)) (b := 0) (by omega) (by omega)).mpr (by omega)) c_28
                                                            · skip
                                                              refine lv_iconst (v := (-1)) hx hb dL_refusesAny_354 (by decide) ?_
                                                              refine lv_goto (tgt := 360) hx hb dL_refusesAny_355 (by decide) ?_
                                                              refine h_op (st := []) C hS hP hD hl.1 (k_pass_out (-1) (by decide)) gL_refusesAny_X4_pass rfl hd_pass ⟨Nat.le_of_ble_eq_true rfl, Nat.le_of_ble_eq_true rfl⟩ rfl rfl (Nat.le_of_ble_eq_true rfl) dL_refusesAny_360 ⟨Nat.le_of_ble_eq_true rfl, Nat.le_of_ble_eq_true rfl⟩ (fun H locs hP hD hS => ?_)
                                                              refine lv_bipush (v := (-2)) hx hb dL_refusesAny_363 (by decide) ?_
                                                              refine lv_icmp_ne (tgt := 372) hx hb dL_refusesAny_365 (by decide) (fun c_29 => ?_) (fun c_29 => ?_)
                                                              · skip
                                                                exact absurd (by decide) c_29
                                                              · skip
                                                                refine lv_iconst (v := nI 1) hx hb dL_refusesAny_368 (by decide) ?_
                                                                refine lv_goto (tgt := 373) hx hb dL_refusesAny_369 (by decide) ?_
                                                                refine lv_istore (lv' := [(6, .int (nI 1)), (5, .int (nI 0)), (4, .int (nI (X % 12))), (3, .int wk), (2, .int pu), (0, .ref B.1.1), (1, .int (nI X))]) hx hb dL_refusesAny_373 hl (by decide) rfl (fun ls hl => ?_)
                                                                refine lv_iload hx hb dL_refusesAny_375 (lv_at hl 0 rfl) ?_
                                                                refine lv_if_eq (tgt := 664) hx hb dL_refusesAny_377 (by decide) (fun c_30 => ?_) (fun c_30 => ?_)
                                                                · skip
                                                                  exact absurd c_30 (by decide)
                                                                · skip
                                                                  refine lv_aload_n hx hb dL_refusesAny_380 rfl (lv_at hl 5 rfl) ?_
                                                                  refine lv_iload_n hx hb dL_refusesAny_381 rfl (lv_at hl 4 rfl) ?_
                                                                  refine lv_bipush (v := nI 99) hx hb dL_refusesAny_382 (by decide) ?_
                                                                  refine h_op (st := []) C hS hP hD hl.1 (k_puddle_out pu (nI 99) hpub) gL_refusesAny_X4_puddle rfl hd_puddle ⟨Nat.le_of_ble_eq_true rfl, Nat.le_of_ble_eq_true rfl⟩ rfl rfl (Nat.le_of_ble_eq_true rfl) dL_refusesAny_384 ⟨Nat.le_of_ble_eq_true rfl, Nat.le_of_ble_eq_true rfl⟩ (fun H locs hP hD hS => ?_)
                                                                  refine lv_iconst (v := (-1)) hx hb dL_refusesAny_387 (by decide) ?_
                                                                  refine lv_icmp_ne (tgt := 664) hx hb dL_refusesAny_388 (by decide) (fun c_31 => ?_) (fun c_31 => ?_)
                                                                  · skip
                                                                    exact absurd (by decide) c_31
                                                                  · skip
                                                                    refine lv_aload_n hx hb dL_refusesAny_391 rfl (lv_at hl 5 rfl) ?_
                                                                    refine lv_iload hx hb dL_refusesAny_392 (lv_at hl 2 rfl) ?_
                                                                    refine lv_iload_n hx hb dL_refusesAny_394 rfl (lv_at hl 6 rfl) ?_
                                                                    refine lv_iconst (v := nI 2) hx hb dL_refusesAny_395 (by decide) ?_
                                                                    refine lv_irem hx hb dL_refusesAny_396 (by decide) ?_
                                                                    refine lv_eqi (pk_rem (by omega) (by omega) (by omega)) ?_
                                                                    refine lv_if_ne (tgt := 404) hx hb dL_refusesAny_397 (by decide) (fun c_32 => ?_) (fun c_32 => ?_)
                                                                    · skip
                                                                      exact absurd ((nI_eq (a := (X % 2)) (b := 0) (by omega) (by omega)).mpr (by omega)) c_32
                                                                    · skip
                                                                      refine lv_iconst (v := (-1)) hx hb dL_refusesAny_400 (by decide) ?_
                                                                      refine lv_goto (tgt := 406) hx hb dL_refusesAny_401 (by decide) ?_
                                                                      refine h_op (st := []) C hS hP hD hl.1 (k_puddle_bad (p := X % 12) (by omega) (-1) (by decide)) gL_refusesAny_X4_puddle rfl hd_puddle ⟨Nat.le_of_ble_eq_true rfl, Nat.le_of_ble_eq_true rfl⟩ rfl rfl (Nat.le_of_ble_eq_true rfl) dL_refusesAny_406 ⟨Nat.le_of_ble_eq_true rfl, Nat.le_of_ble_eq_true rfl⟩ (fun H locs hP hD hS => ?_)
                                                                      refine lv_bipush (v := (-2)) hx hb dL_refusesAny_409 (by decide) ?_
                                                                      refine lv_icmp_ne (tgt := 664) hx hb dL_refusesAny_411 (by decide) (fun c_33 => ?_) (fun c_33 => ?_)
                                                                      · skip
                                                                        exact absurd (by decide) c_33
                                                                      · skip
                                                                        refine lv_aload_n hx hb dL_refusesAny_414 rfl (lv_at hl 5 rfl) ?_
                                                                        refine lv_iload_n hx hb dL_refusesAny_415 rfl (lv_at hl 3 rfl) ?_
                                                                        refine lv_bipush (v := nI 99) hx hb dL_refusesAny_416 (by decide) ?_
                                                                        refine h_op (st := []) C hS hP hD hl.1 (k_walker_out wk (nI 99) hwkb) gL_refusesAny_X4_walker rfl hd_walker ⟨Nat.le_of_ble_eq_true rfl, Nat.le_of_ble_eq_true rfl⟩ rfl rfl (Nat.le_of_ble_eq_true rfl) dL_refusesAny_418 ⟨Nat.le_of_ble_eq_true rfl, Nat.le_of_ble_eq_true rfl⟩ (fun H locs hP hD hS => ?_)
                                                                        refine lv_iconst (v := (-1)) hx hb dL_refusesAny_421 (by decide) ?_
                                                                        refine lv_icmp_ne (tgt := 664) hx hb dL_refusesAny_422 (by decide) (fun c_34 => ?_) (fun c_34 => ?_)
                                                                        · skip
                                                                          exact absurd (by decide) c_34
                                                                        · skip
                                                                          refine lv_aload_n hx hb dL_refusesAny_425 rfl (lv_at hl 5 rfl) ?_
                                                                          refine lv_iconst (v := nI 0) hx hb dL_refusesAny_426 (by decide) ?_
                                                                          refine lv_iload_n hx hb dL_refusesAny_427 rfl (lv_at hl 6 rfl) ?_
                                                                          refine lv_iconst (v := nI 2) hx hb dL_refusesAny_428 (by decide) ?_
                                                                          refine lv_irem hx hb dL_refusesAny_429 (by decide) ?_
                                                                          refine lv_eqi (pk_rem (by omega) (by omega) (by omega)) ?_
                                                                          refine lv_if_ne (tgt := 437) hx hb dL_refusesAny_430 (by decide) (fun c_35 => ?_) (fun c_35 => ?_)
                                                                          · skip
                                                                            exact absurd ((nI_eq (a := (X % 2)) (b := 0) (by omega) (by omega)).mpr (by omega)) c_35
                                                                          · skip
                                                                            refine lv_iconst (v := (-1)) hx hb dL_refusesAny_433 (by decide) ?_
                                                                            refine lv_goto (tgt := 439) hx hb dL_refusesAny_434 (by decide) ?_
                                                                            refine h_op (st := []) C hS hP hD hl.1 (k_walker_bad (w := 0) (by omega) (-1) (by decide)) gL_refusesAny_X4_walker rfl hd_walker ⟨Nat.le_of_ble_eq_true rfl, Nat.le_of_ble_eq_true rfl⟩ rfl rfl (Nat.le_of_ble_eq_true rfl) dL_refusesAny_439 ⟨Nat.le_of_ble_eq_true rfl, Nat.le_of_ble_eq_true rfl⟩ (fun H locs hP hD hS => ?_)
                                                                            refine lv_bipush (v := (-2)) hx hb dL_refusesAny_442 (by decide) ?_
                                                                            refine lv_icmp_ne (tgt := 664) hx hb dL_refusesAny_444 (by decide) (fun c_36 => ?_) (fun c_36 => ?_)
                                                                            · skip
                                                                              exact absurd (by decide) c_36
                                                                            · skip
                                                                              refine lv_aload_n hx hb dL_refusesAny_447 rfl (lv_at hl 5 rfl) ?_
                                                                              refine lv_iload_n hx hb dL_refusesAny_448 rfl (lv_at hl 3 rfl) ?_
                                                                              refine lv_iconst (v := nI 0) hx hb dL_refusesAny_449 (by decide) ?_
                                                                              refine h_op (st := []) C hS hP hD hl.1 (k_why_outw wk (nI 0) hwkb) gL_refusesAny_X4_why rfl hd_why ⟨Nat.le_of_ble_eq_true rfl, Nat.le_of_ble_eq_true rfl⟩ rfl rfl (Nat.le_of_ble_eq_true rfl) dL_refusesAny_450 ⟨Nat.le_of_ble_eq_true rfl, Nat.le_of_ble_eq_true rfl⟩ (fun H locs hP hD hS => ?_)
                                                                              refine lv_iconst (v := (-1)) hx hb dL_refusesAny_453 (by decide) ?_
                                                                              refine lv_icmp_ne (tgt := 664) hx hb dL_refusesAny_454 (by decide) (fun c_37 => ?_) (fun c_37 => ?_)
                                                                              · skip
                                                                                exact absurd (by decide) c_37
                                                                              · skip
                                                                                refine lv_aload_n hx hb dL_refusesAny_457 rfl (lv_at hl 5 rfl) ?_
                                                                                refine lv_iconst (v := nI 0) hx hb dL_refusesAny_458 (by decide) ?_
                                                                                refine lv_iload_n hx hb dL_refusesAny_459 rfl (lv_at hl 4 rfl) ?_
                                                                                refine h_op (st := []) C hS hP hD hl.1 (k_why_outp (w := 0) (by omega) pu hpub) gL_refusesAny_X4_why rfl hd_why ⟨Nat.le_of_ble_eq_true rfl, Nat.le_of_ble_eq_true rfl⟩ rfl rfl (Nat.le_of_ble_eq_true rfl) dL_refusesAny_460 ⟨Nat.le_of_ble_eq_true rfl, Nat.le_of_ble_eq_true rfl⟩ (fun H locs hP hD hS => ?_)
                                                                                refine lv_iconst (v := (-1)) hx hb dL_refusesAny_463 (by decide) ?_
                                                                                refine lv_icmp_ne (tgt := 664) hx hb dL_refusesAny_464 (by decide) (fun c_38 => ?_) (fun c_38 => ?_)
                                                                                · skip
                                                                                  exact absurd (by decide) c_38
                                                                                · skip
                                                                                  refine lv_aload_n hx hb dL_refusesAny_467 rfl (lv_at hl 5 rfl) ?_
                                                                                  refine lv_iload_n hx hb dL_refusesAny_468 rfl (lv_at hl 3 rfl) ?_
                                                                                  refine lv_iconst (v := nI 0) hx hb dL_refusesAny_469 (by decide) ?_
                                                                                  refine h_op (st := []) C hS hP hD hl.1 (k_holds_outw wk (nI 0) hwkb) gL_refusesAny_X4_holds rfl hd_holds ⟨Nat.le_of_ble_eq_true rfl, Nat.le_of_ble_eq_true rfl⟩ rfl rfl (Nat.le_of_ble_eq_true rfl) dL_refusesAny_470 ⟨Nat.le_of_ble_eq_true rfl, Nat.le_of_ble_eq_true rfl⟩ (fun H locs hP hD hS => ?_)
                                                                                  refine lv_iconst (v := (-1)) hx hb dL_refusesAny_473 (by decide) ?_
                                                                                  refine lv_icmp_ne (tgt := 664) hx hb dL_refusesAny_474 (by decide) (fun c_39 => ?_) (fun c_39 => ?_)
                                                                                  · skip
                                                                                    exact absurd (by decide) c_39
                                                                                  · skip
                                                                                    refine lv_aload_n hx hb dL_refusesAny_477 rfl (lv_at hl 5 rfl) ?_
                                                                                    refine lv_iconst (v := nI 0) hx hb dL_refusesAny_478 (by decide) ?_
                                                                                    refine lv_iload_n hx hb dL_refusesAny_479 rfl (lv_at hl 4 rfl) ?_
                                                                                    refine h_op (st := []) C hS hP hD hl.1 (k_holds_outp (w := 0) (by omega) pu hpub) gL_refusesAny_X4_holds rfl hd_holds ⟨Nat.le_of_ble_eq_true rfl, Nat.le_of_ble_eq_true rfl⟩ rfl rfl (Nat.le_of_ble_eq_true rfl) dL_refusesAny_480 ⟨Nat.le_of_ble_eq_true rfl, Nat.le_of_ble_eq_true rfl⟩ (fun H locs hP hD hS => ?_)
                                                                                    refine lv_iconst (v := (-1)) hx hb dL_refusesAny_483 (by decide) ?_
                                                                                    refine lv_icmp_ne (tgt := 664) hx hb dL_refusesAny_484 (by decide) (fun c_40 => ?_) (fun c_40 => ?_)
                                                                                    · skip
                                                                                      exact absurd (by decide) c_40
                                                                                    · skip
                                                                                      refine lv_aload_n hx hb dL_refusesAny_487 rfl (lv_at hl 5 rfl) ?_
                                                                                      refine lv_iload_n hx hb dL_refusesAny_488 rfl (lv_at hl 6 rfl) ?_
                                                                                      refine lv_iconst (v := nI 2) hx hb dL_refusesAny_489 (by decide) ?_
                                                                                      refine lv_irem hx hb dL_refusesAny_490 (by decide) ?_
                                                                                      refine lv_eqi (pk_rem (by omega) (by omega) (by omega)) ?_
                                                                                      refine lv_if_ne (tgt := 498) hx hb dL_refusesAny_491 (by decide) (fun c_41 => ?_) (fun c_41 => ?_)
                                                                                      · skip
                                                                                        exact absurd ((nI_eq (a := (X % 2)) (b := 0) (by omega) (by omega)).mpr (by omega)) c_41
                                                                                      · skip
                                                                                        refine lv_iconst (v := (-1)) hx hb dL_refusesAny_494 (by decide) ?_
                                                                                        refine lv_goto (tgt := 500) hx hb dL_refusesAny_495 (by decide) ?_
                                                                                        refine h_op (st := []) C hS hP hD hl.1 (k_count_bad (-1) (by decide)) gL_refusesAny_X4_count rfl hd_count ⟨Nat.le_of_ble_eq_true rfl, Nat.le_of_ble_eq_true rfl⟩ rfl rfl (Nat.le_of_ble_eq_true rfl) dL_refusesAny_500 ⟨Nat.le_of_ble_eq_true rfl, Nat.le_of_ble_eq_true rfl⟩ (fun H locs hP hD hS => ?_)
                                                                                        refine lv_bipush (v := (-2)) hx hb dL_refusesAny_503 (by decide) ?_
                                                                                        refine lv_icmp_ne (tgt := 664) hx hb dL_refusesAny_505 (by decide) (fun c_42 => ?_) (fun c_42 => ?_)
                                                                                        · skip
                                                                                          exact absurd (by decide) c_42
                                                                                        · skip
                                                                                          refine lv_aload_n hx hb dL_refusesAny_508 rfl (lv_at hl 5 rfl) ?_
                                                                                          refine lv_iload_n hx hb dL_refusesAny_509 rfl (lv_at hl 3 rfl) ?_
                                                                                          refine lv_iconst (v := nI 0) hx hb dL_refusesAny_510 (by decide) ?_
                                                                                          refine lv_iconst (v := nI 0) hx hb dL_refusesAny_511 (by decide) ?_
                                                                                          refine lv_bipush (v := nI 9) hx hb dL_refusesAny_512 (by decide) ?_
                                                                                          refine h_op (st := []) C hS hP hD hl.1 (k_cost_outw wk (nI 0) (nI 0) (nI 9) hwkb) gL_refusesAny_X4_cost rfl hd_cost ⟨Nat.le_of_ble_eq_true rfl, Nat.le_of_ble_eq_true rfl⟩ rfl rfl (Nat.le_of_ble_eq_true rfl) dL_refusesAny_514 ⟨Nat.le_of_ble_eq_true rfl, Nat.le_of_ble_eq_true rfl⟩ (fun H locs hP hD hS => ?_)
                                                                                          refine lv_iconst (v := (-1)) hx hb dL_refusesAny_517 (by decide) ?_
                                                                                          refine lv_icmp_ne (tgt := 664) hx hb dL_refusesAny_518 (by decide) (fun c_43 => ?_) (fun c_43 => ?_)
                                                                                          · skip
                                                                                            exact absurd (by decide) c_43
                                                                                          · skip
                                                                                            refine lv_aload_n hx hb dL_refusesAny_521 rfl (lv_at hl 5 rfl) ?_
                                                                                            refine lv_iconst (v := nI 0) hx hb dL_refusesAny_522 (by decide) ?_
                                                                                            refine lv_iload_n hx hb dL_refusesAny_523 rfl (lv_at hl 4 rfl) ?_
                                                                                            refine lv_iconst (v := nI 0) hx hb dL_refusesAny_524 (by decide) ?_
                                                                                            refine lv_bipush (v := nI 9) hx hb dL_refusesAny_525 (by decide) ?_
                                                                                            refine h_op (st := []) C hS hP hD hl.1 (k_cost_outf (w := 0) (by omega) pu (nI 0) (nI 9) hpub) gL_refusesAny_X4_cost rfl hd_cost ⟨Nat.le_of_ble_eq_true rfl, Nat.le_of_ble_eq_true rfl⟩ rfl rfl (Nat.le_of_ble_eq_true rfl) dL_refusesAny_527 ⟨Nat.le_of_ble_eq_true rfl, Nat.le_of_ble_eq_true rfl⟩ (fun H locs hP hD hS => ?_)
                                                                                            refine lv_iconst (v := (-1)) hx hb dL_refusesAny_530 (by decide) ?_
                                                                                            refine lv_icmp_ne (tgt := 664) hx hb dL_refusesAny_531 (by decide) (fun c_44 => ?_) (fun c_44 => ?_)
                                                                                            · skip
                                                                                              exact absurd (by decide) c_44
                                                                                            · skip
                                                                                              refine lv_aload_n hx hb dL_refusesAny_534 rfl (lv_at hl 5 rfl) ?_
                                                                                              refine lv_iconst (v := nI 0) hx hb dL_refusesAny_535 (by decide) ?_
                                                                                              refine lv_iconst (v := nI 0) hx hb dL_refusesAny_536 (by decide) ?_
                                                                                              refine lv_iload_n hx hb dL_refusesAny_537 rfl (lv_at hl 4 rfl) ?_
                                                                                              refine lv_bipush (v := nI 9) hx hb dL_refusesAny_538 (by decide) ?_
                                                                                              refine h_op (st := []) C hS hP hD hl.1 (k_cost_outt (w := 0) (f := 0) (by omega) (by omega) pu (nI 9) hpub) gL_refusesAny_X4_cost rfl hd_cost ⟨Nat.le_of_ble_eq_true rfl, Nat.le_of_ble_eq_true rfl⟩ rfl rfl (Nat.le_of_ble_eq_true rfl) dL_refusesAny_540 ⟨Nat.le_of_ble_eq_true rfl, Nat.le_of_ble_eq_true rfl⟩ (fun H locs hP hD hS => ?_)
                                                                                              refine lv_iconst (v := (-1)) hx hb dL_refusesAny_543 (by decide) ?_
                                                                                              refine lv_icmp_ne (tgt := 664) hx hb dL_refusesAny_544 (by decide) (fun c_45 => ?_) (fun c_45 => ?_)
                                                                                              · skip
                                                                                                exact absurd (by decide) c_45
                                                                                              · skip
                                                                                                refine lv_aload_n hx hb dL_refusesAny_547 rfl (lv_at hl 5 rfl) ?_
                                                                                                refine lv_iconst (v := nI 0) hx hb dL_refusesAny_548 (by decide) ?_
                                                                                                refine lv_iconst (v := nI 0) hx hb dL_refusesAny_549 (by decide) ?_
                                                                                                refine lv_iconst (v := nI 0) hx hb dL_refusesAny_550 (by decide) ?_
                                                                                                refine lv_iload_n hx hb dL_refusesAny_551 rfl (lv_at hl 6 rfl) ?_
                                                                                                refine lv_iconst (v := nI 2) hx hb dL_refusesAny_552 (by decide) ?_
                                                                                                refine lv_irem hx hb dL_refusesAny_553 (by decide) ?_
                                                                                                refine lv_eqi (pk_rem (by omega) (by omega) (by omega)) ?_
                                                                                                refine lv_if_ne (tgt := 561) hx hb dL_refusesAny_554 (by decide) (fun c_46 => ?_) (fun c_46 => ?_)
                                                                                                · skip
                                                                                                  exact absurd ((nI_eq (a := (X % 2)) (b := 0) (by omega) (by omega)).mpr (by omega)) c_46
                                                                                                · skip
                                                                                                  refine lv_iconst (v := (-1)) hx hb dL_refusesAny_557 (by decide) ?_
                                                                                                  refine lv_goto (tgt := 562) hx hb dL_refusesAny_558 (by decide) ?_
                                                                                                  refine h_op (st := []) C hS hP hD hl.1 (k_cost_bad (w := 0) (f := 0) (t := 0) (by omega) (by omega) (by omega) (-1) (by decide) (by decide)) gL_refusesAny_X4_cost rfl hd_cost ⟨Nat.le_of_ble_eq_true rfl, Nat.le_of_ble_eq_true rfl⟩ rfl rfl (Nat.le_of_ble_eq_true rfl) dL_refusesAny_562 ⟨Nat.le_of_ble_eq_true rfl, Nat.le_of_ble_eq_true rfl⟩ (fun H locs hP hD hS => ?_)
                                                                                                  refine lv_bipush (v := (-2)) hx hb dL_refusesAny_565 (by decide) ?_
                                                                                                  refine lv_icmp_ne (tgt := 664) hx hb dL_refusesAny_567 (by decide) (fun c_47 => ?_) (fun c_47 => ?_)
                                                                                                  · skip
                                                                                                    exact absurd (by decide) c_47
                                                                                                  · skip
                                                                                                    refine lv_aload_n hx hb dL_refusesAny_570 rfl (lv_at hl 5 rfl) ?_
                                                                                                    refine lv_iload_n hx hb dL_refusesAny_571 rfl (lv_at hl 4 rfl) ?_
                                                                                                    refine h_op (st := []) C hS hP hD hl.1 (k_untilDry_out pu hpub) gL_refusesAny_X4_untilDry rfl hd_untilDry ⟨Nat.le_of_ble_eq_true rfl, Nat.le_of_ble_eq_true rfl⟩ rfl rfl (Nat.le_of_ble_eq_true rfl) dL_refusesAny_572 ⟨Nat.le_of_ble_eq_true rfl, Nat.le_of_ble_eq_true rfl⟩ (fun H locs hP hD hS => ?_)
                                                                                                    refine lv_iconst (v := (-1)) hx hb dL_refusesAny_575 (by decide) ?_
                                                                                                    refine lv_icmp_ne (tgt := 664) hx hb dL_refusesAny_576 (by decide) (fun c_48 => ?_) (fun c_48 => ?_)
                                                                                                    · skip
                                                                                                      exact absurd (by decide) c_48
                                                                                                    · skip
                                                                                                      refine lv_aload_n hx hb dL_refusesAny_579 rfl (lv_at hl 5 rfl) ?_
                                                                                                      refine lv_iload_n hx hb dL_refusesAny_580 rfl (lv_at hl 3 rfl) ?_
                                                                                                      refine h_op (st := []) C hS hP hD hl.1 (k_leastShoes_out wk hwkb) gL_refusesAny_X4_leastShoes rfl hd_leastShoes ⟨Nat.le_of_ble_eq_true rfl, Nat.le_of_ble_eq_true rfl⟩ rfl rfl (Nat.le_of_ble_eq_true rfl) dL_refusesAny_581 ⟨Nat.le_of_ble_eq_true rfl, Nat.le_of_ble_eq_true rfl⟩ (fun H locs hP hD hS => ?_)
                                                                                                      refine lv_iconst (v := (-1)) hx hb dL_refusesAny_584 (by decide) ?_
                                                                                                      refine lv_icmp_ne (tgt := 664) hx hb dL_refusesAny_585 (by decide) (fun c_49 => ?_) (fun c_49 => ?_)
                                                                                                      · skip
                                                                                                        exact absurd (by decide) c_49
                                                                                                      · skip
                                                                                                        refine lv_aload_n hx hb dL_refusesAny_588 rfl (lv_at hl 5 rfl) ?_
                                                                                                        refine lv_iload_n hx hb dL_refusesAny_589 rfl (lv_at hl 3 rfl) ?_
                                                                                                        refine lv_bipush (v := nI 9) hx hb dL_refusesAny_590 (by decide) ?_
                                                                                                        refine h_op (st := []) C hS hP hD hl.1 (k_longestWalk_out wk (nI 9) hwkb) gL_refusesAny_X4_longestWalk rfl hd_longestWalk ⟨Nat.le_of_ble_eq_true rfl, Nat.le_of_ble_eq_true rfl⟩ rfl rfl (Nat.le_of_ble_eq_true rfl) dL_refusesAny_592 ⟨Nat.le_of_ble_eq_true rfl, Nat.le_of_ble_eq_true rfl⟩ (fun H locs hP hD hS => ?_)
                                                                                                        refine lv_iconst (v := (-1)) hx hb dL_refusesAny_595 (by decide) ?_
                                                                                                        refine lv_icmp_ne (tgt := 664) hx hb dL_refusesAny_596 (by decide) (fun c_50 => ?_) (fun c_50 => ?_)
                                                                                                        · skip
                                                                                                          exact absurd (by decide) c_50
                                                                                                        · skip
                                                                                                          refine lv_aload_n hx hb dL_refusesAny_599 rfl (lv_at hl 5 rfl) ?_
                                                                                                          refine lv_iconst (v := nI 0) hx hb dL_refusesAny_600 (by decide) ?_
                                                                                                          refine lv_iload_n hx hb dL_refusesAny_601 rfl (lv_at hl 6 rfl) ?_
                                                                                                          refine lv_iconst (v := nI 2) hx hb dL_refusesAny_602 (by decide) ?_
                                                                                                          refine lv_irem hx hb dL_refusesAny_603 (by decide) ?_
                                                                                                          refine lv_eqi (pk_rem (by omega) (by omega) (by omega)) ?_
                                                                                                          refine lv_if_ne (tgt := 611) hx hb dL_refusesAny_604 (by decide) (fun c_51 => ?_) (fun c_51 => ?_)
                                                                                                          · skip
                                                                                                            exact absurd ((nI_eq (a := (X % 2)) (b := 0) (by omega) (by omega)).mpr (by omega)) c_51
                                                                                                          · skip
                                                                                                            refine lv_iconst (v := (-1)) hx hb dL_refusesAny_607 (by decide) ?_
                                                                                                            refine lv_goto (tgt := 612) hx hb dL_refusesAny_608 (by decide) ?_
                                                                                                            refine h_op (st := []) C hS hP hD hl.1 (k_longestWalk_bad (w := 0) (by omega) (-1) (by decide) (by decide)) gL_refusesAny_X4_longestWalk rfl hd_longestWalk ⟨Nat.le_of_ble_eq_true rfl, Nat.le_of_ble_eq_true rfl⟩ rfl rfl (Nat.le_of_ble_eq_true rfl) dL_refusesAny_612 ⟨Nat.le_of_ble_eq_true rfl, Nat.le_of_ble_eq_true rfl⟩ (fun H locs hP hD hS => ?_)
                                                                                                            refine lv_bipush (v := (-2)) hx hb dL_refusesAny_615 (by decide) ?_
                                                                                                            refine lv_icmp_ne (tgt := 664) hx hb dL_refusesAny_617 (by decide) (fun c_52 => ?_) (fun c_52 => ?_)
                                                                                                            · skip
                                                                                                              exact absurd (by decide) c_52
                                                                                                            · skip
                                                                                                              refine lv_aload_n hx hb dL_refusesAny_620 rfl (lv_at hl 5 rfl) ?_
                                                                                                              refine lv_iload_n hx hb dL_refusesAny_621 rfl (lv_at hl 6 rfl) ?_
                                                                                                              refine lv_iconst (v := nI 2) hx hb dL_refusesAny_622 (by decide) ?_
                                                                                                              refine lv_irem hx hb dL_refusesAny_623 (by decide) ?_
                                                                                                              refine lv_eqi (pk_rem (by omega) (by omega) (by omega)) ?_
                                                                                                              refine lv_if_ne (tgt := 631) hx hb dL_refusesAny_624 (by decide) (fun c_53 => ?_) (fun c_53 => ?_)
                                                                                                              · skip
                                                                                                                exact absurd ((nI_eq (a := (X % 2)) (b := 0) (by omega) (by omega)).mpr (by omega)) c_53
                                                                                                              · skip
                                                                                                                refine lv_iconst (v := (-1)) hx hb dL_refusesAny_627 (by decide) ?_
                                                                                                                refine lv_goto (tgt := 632) hx hb dL_refusesAny_628 (by decide) ?_
                                                                                                                refine h_op (st := []) C hS hP hD hl.1 (k_save_out (-1) (by decide)) gL_refusesAny_X4_save rfl hd_save ⟨Nat.le_of_ble_eq_true rfl, Nat.le_of_ble_eq_true rfl⟩ rfl rfl (Nat.le_of_ble_eq_true rfl) dL_refusesAny_632 ⟨Nat.le_of_ble_eq_true rfl, Nat.le_of_ble_eq_true rfl⟩ (fun H locs hP hD hS => ?_)
                                                                                                                refine lv_bipush (v := (-2)) hx hb dL_refusesAny_635 (by decide) ?_
                                                                                                                refine lv_icmp_ne (tgt := 664) hx hb dL_refusesAny_637 (by decide) (fun c_54 => ?_) (fun c_54 => ?_)
                                                                                                                · skip
                                                                                                                  exact absurd (by decide) c_54
                                                                                                                · skip
                                                                                                                  refine lv_aload_n hx hb dL_refusesAny_640 rfl (lv_at hl 5 rfl) ?_
                                                                                                                  refine lv_iload_n hx hb dL_refusesAny_641 rfl (lv_at hl 6 rfl) ?_
                                                                                                                  refine lv_iconst (v := nI 2) hx hb dL_refusesAny_642 (by decide) ?_
                                                                                                                  refine lv_irem hx hb dL_refusesAny_643 (by decide) ?_
                                                                                                                  refine lv_eqi (pk_rem (by omega) (by omega) (by omega)) ?_
                                                                                                                  refine lv_if_ne (tgt := 651) hx hb dL_refusesAny_644 (by decide) (fun c_55 => ?_) (fun c_55 => ?_)
                                                                                                                  · skip
                                                                                                                    exact absurd ((nI_eq (a := (X % 2)) (b := 0) (by omega) (by omega)).mpr (by omega)) c_55
                                                                                                                  · skip
                                                                                                                    refine lv_iconst (v := (-1)) hx hb dL_refusesAny_647 (by decide) ?_
                                                                                                                    refine lv_goto (tgt := 652) hx hb dL_refusesAny_648 (by decide) ?_
                                                                                                                    refine h_op (st := []) C hS hP hD hl.1 (k_restore_out (-1) (by decide)) gL_refusesAny_X4_restore rfl hd_restore ⟨Nat.le_of_ble_eq_true rfl, Nat.le_of_ble_eq_true rfl⟩ rfl rfl (Nat.le_of_ble_eq_true rfl) dL_refusesAny_652 ⟨Nat.le_of_ble_eq_true rfl, Nat.le_of_ble_eq_true rfl⟩ (fun H locs hP hD hS => ?_)
                                                                                                                    refine lv_bipush (v := (-2)) hx hb dL_refusesAny_655 (by decide) ?_
                                                                                                                    refine lv_icmp_ne (tgt := 664) hx hb dL_refusesAny_657 (by decide) (fun c_56 => ?_) (fun c_56 => ?_)
                                                                                                                    · skip
                                                                                                                      exact absurd (by decide) c_56
                                                                                                                    · skip
                                                                                                                      refine lv_iconst (v := nI 1) hx hb dL_refusesAny_660 (by decide) ?_
                                                                                                                      refine lv_goto (tgt := 665) hx hb dL_refusesAny_661 (by decide) ?_
                                                                                                                      refine lv_istore (lv' := [(6, .int (nI 1)), (5, .int (nI 0)), (4, .int (nI (X % 12))), (3, .int wk), (2, .int pu), (0, .ref B.1.1), (1, .int (nI X))]) hx hb dL_refusesAny_665 hl (by decide) rfl (fun ls hl => ?_)
                                                                                                                      refine lv_iload hx hb dL_refusesAny_667 (lv_at hl 0 rfl) ?_
                                                                                                                      refine lv_if_eq (tgt := 699) hx hb dL_refusesAny_669 (by decide) (fun c_57 => ?_) (fun c_57 => ?_)
                                                                                                                      · skip
                                                                                                                        exact absurd c_57 (by decide)
                                                                                                                      · skip
                                                                                                                        refine lv_aload_n hx hb dL_refusesAny_672 rfl (lv_at hl 5 rfl) ?_
                                                                                                                        refine h_op (st := []) C hS hP hD hl.1 (k_wipe h0) gL_refusesAny_X4_wipe rfl hd_wipe ⟨Nat.le_of_ble_eq_true rfl, Nat.le_of_ble_eq_true rfl⟩ rfl rfl (Nat.le_of_ble_eq_true rfl) dL_refusesAny_673 ⟨Nat.le_of_ble_eq_true rfl, Nat.le_of_ble_eq_true rfl⟩ (fun H locs hP hD hS => ?_)
                                                                                                                        refine lv_if_ne (tgt := 699) hx hb dL_refusesAny_676 (by decide) (fun c_58 => ?_) (fun c_58 => ?_)
                                                                                                                        · skip
                                                                                                                          exact absurd (by decide) c_58
                                                                                                                        · skip
                                                                                                                          refine lv_aload_n hx hb dL_refusesAny_679 rfl (lv_at hl 5 rfl) ?_
                                                                                                                          refine h_op (st := []) C hS hP hD hl.1 (k_read h0) gL_refusesAny_X4_read rfl hd_read ⟨Nat.le_of_ble_eq_true rfl, Nat.le_of_ble_eq_true rfl⟩ rfl rfl (Nat.le_of_ble_eq_true rfl) dL_refusesAny_680 ⟨Nat.le_of_ble_eq_true rfl, Nat.le_of_ble_eq_true rfl⟩ (fun H locs hP hD hS => ?_)
                                                                                                                          refine lv_bipush (v := (-3)) hx hb dL_refusesAny_683 (by decide) ?_
                                                                                                                          refine lv_icmp_ne (tgt := 699) hx hb dL_refusesAny_685 (by decide) (fun c_59 => ?_) (fun c_59 => ?_)
                                                                                                                          · skip
                                                                                                                            exact absurd (by decide) c_59
                                                                                                                          · skip
                                                                                                                            refine lv_aload_n hx hb dL_refusesAny_688 rfl (lv_at hl 5 rfl) ?_
                                                                                                                            refine h_op (st := []) C hS hP hD hl.1 (k_fault h0) gL_refusesAny_X4_fault rfl hd_fault ⟨Nat.le_of_ble_eq_true rfl, Nat.le_of_ble_eq_true rfl⟩ rfl rfl (Nat.le_of_ble_eq_true rfl) dL_refusesAny_689 ⟨Nat.le_of_ble_eq_true rfl, Nat.le_of_ble_eq_true rfl⟩ (fun H locs hP hD hS => ?_)
                                                                                                                            refine lv_if_ne (tgt := 699) hx hb dL_refusesAny_692 (by decide) (fun c_60 => ?_) (fun c_60 => ?_)
                                                                                                                            · skip
                                                                                                                              exact absurd (by decide) c_60
                                                                                                                            · skip
                                                                                                                              refine lv_iconst (v := nI 1) hx hb dL_refusesAny_695 (by decide) ?_
                                                                                                                              refine lv_goto (tgt := 700) hx hb dL_refusesAny_696 (by decide) ?_
                                                                                                                              exact hret _ _ _ _ hP hS dL_refusesAny_700
                                        · skip
                                          exact absurd (by decide) c_18
          · skip
            exact absurd c_3 (dk_0 hd)
    · skip
      refine lv_iload_n hx hb dL_refusesAny_0 rfl (lv_at hl 1 rfl) ?_
      refine lv_iconst (v := nI 2) hx hb dL_refusesAny_1 (by decide) ?_
      refine lv_irem hx hb dL_refusesAny_2 (by decide) ?_
      refine lv_eqi (pk_rem (by omega) (by omega) (by omega)) ?_
      refine lv_if_ne (tgt := 15) hx hb dL_refusesAny_3 (by decide) (fun c_61 => ?_) (fun c_61 => ?_)
      · skip
        exact absurd ((nI_eq (a := (X % 2)) (b := 0) (by omega) (by omega)).mpr (by omega)) c_61
      · skip
        refine lv_iconst (v := (-1)) hx hb dL_refusesAny_6 (by decide) ?_
        refine lv_iload_n hx hb dL_refusesAny_7 rfl (lv_at hl 1 rfl) ?_
        refine lv_bipush (v := nI 99) hx hb dL_refusesAny_8 (by decide) ?_
        refine lv_irem hx hb dL_refusesAny_10 (by decide) ?_
        refine lv_eqi (pk_rem (by omega) (by omega) (by omega)) ?_
        refine lv_isub hx hb dL_refusesAny_11 ?_
        refine lv_goto (tgt := 22) hx hb dL_refusesAny_12 (by decide) ?_
        obtain ⟨pu, hpu⟩ : ∃ x : Int32, x = (-1) - (nI (X % 99)) := ⟨_, rfl⟩
        refine lv_eqi hpu.symm ?_
        have hpub : pu < 0 ∨ nI 12 ≤ pu := Or.inl (by rw [hpu]; exact neg_99 _ (by omega))
        refine lv_istore_n (lv' := [(2, .int pu), (0, .ref B.1.1), (1, .int (nI X))]) hx hb dL_refusesAny_22 rfl hl (by decide) rfl (fun ls hl => ?_)
        refine lv_iload_n hx hb dL_refusesAny_23 rfl (lv_at hl 2 rfl) ?_
        refine lv_iconst (v := nI 2) hx hb dL_refusesAny_24 (by decide) ?_
        refine lv_irem hx hb dL_refusesAny_25 (by decide) ?_
        refine lv_eqi (pk_rem (by omega) (by omega) (by omega)) ?_
        refine lv_if_ne (tgt := 38) hx hb dL_refusesAny_26 (by decide) (fun c_62 => ?_) (fun c_62 => ?_)
        · skip
          exact absurd ((nI_eq (a := (X % 2)) (b := 0) (by omega) (by omega)).mpr (by omega)) c_62
        · skip
          refine lv_iconst (v := (-1)) hx hb dL_refusesAny_29 (by decide) ?_
          refine lv_iload_n hx hb dL_refusesAny_30 rfl (lv_at hl 2 rfl) ?_
          refine lv_bipush (v := nI 99) hx hb dL_refusesAny_31 (by decide) ?_
          refine lv_irem hx hb dL_refusesAny_33 (by decide) ?_
          refine lv_eqi (pk_rem (by omega) (by omega) (by omega)) ?_
          refine lv_isub hx hb dL_refusesAny_34 ?_
          refine lv_goto (tgt := 45) hx hb dL_refusesAny_35 (by decide) ?_
          obtain ⟨wk, hwk⟩ : ∃ x : Int32, x = (-1) - (nI (X % 99)) := ⟨_, rfl⟩
          refine lv_eqi hwk.symm ?_
          have hwkb : wk < 0 ∨ nI 6 ≤ wk := Or.inl (by rw [hwk]; exact neg_99 _ (by omega))
          refine lv_istore_n (lv' := [(3, .int wk), (2, .int pu), (0, .ref B.1.1), (1, .int (nI X))]) hx hb dL_refusesAny_45 rfl hl (by decide) rfl (fun ls hl => ?_)
          refine lv_iload_n hx hb dL_refusesAny_46 rfl (lv_at hl 3 rfl) ?_
          refine lv_bipush (v := nI 12) hx hb dL_refusesAny_47 (by decide) ?_
          refine lv_irem hx hb dL_refusesAny_49 (by decide) ?_
          refine lv_eqi (pk_rem (by omega) (by omega) (by omega)) ?_
          refine lv_istore (lv' := [(4, .int (nI (X % 12))), (3, .int wk), (2, .int pu), (0, .ref B.1.1), (1, .int (nI X))]) hx hb dL_refusesAny_50 hl (by decide) rfl (fun ls hl => ?_)
          refine lv_aload_n hx hb dL_refusesAny_52 rfl (lv_at hl 3 rfl) ?_
          refine lv_bipush (v := nI 10) hx hb dL_refusesAny_53 (by decide) ?_
          refine h_op (st := []) C hS hP hD hl.1 (k_count h0 (q := 10) (by decide)) gL_refusesAny_X4_count rfl hd_count ⟨Nat.le_of_ble_eq_true rfl, Nat.le_of_ble_eq_true rfl⟩ rfl rfl (Nat.le_of_ble_eq_true rfl) dL_refusesAny_55 ⟨Nat.le_of_ble_eq_true rfl, Nat.le_of_ble_eq_true rfl⟩ (fun H locs hP hD hS => ?_)
          refine lv_eqi (y := s_dk v.1) (rfl) ?_
          refine lv_iload hx hb dL_refusesAny_58 (lv_at hl 0 rfl) ?_
          refine lv_ishr hx hb dL_refusesAny_60 ?_
          refine lv_iconst (v := nI 1) hx hb dL_refusesAny_61 (by decide) ?_
          refine lv_iand hx hb dL_refusesAny_62 ?_
          refine lv_iconst (v := nI 1) hx hb dL_refusesAny_63 (by decide) ?_
          refine lv_icmp_ne (tgt := 71) hx hb dL_refusesAny_64 (by decide) (fun c_63 => ?_) (fun c_63 => ?_)
          · skip
            exact absurd (dk_1 hd) c_63
          · skip
            refine lv_iconst (v := nI 1) hx hb dL_refusesAny_67 (by decide) ?_
            refine lv_goto (tgt := 72) hx hb dL_refusesAny_68 (by decide) ?_
            refine lv_istore (lv' := [(5, .int (nI 1)), (4, .int (nI (X % 12))), (3, .int wk), (2, .int pu), (0, .ref B.1.1), (1, .int (nI X))]) hx hb dL_refusesAny_72 hl (by decide) rfl (fun ls hl => ?_)
            refine lv_aload_n hx hb dL_refusesAny_74 rfl (lv_at hl 4 rfl) ?_
            refine lv_iload_n hx hb dL_refusesAny_75 rfl (lv_at hl 5 rfl) ?_
            refine lv_iconst (v := nI 2) hx hb dL_refusesAny_76 (by decide) ?_
            refine lv_irem hx hb dL_refusesAny_77 (by decide) ?_
            refine lv_eqi (pk_rem (by omega) (by omega) (by omega)) ?_
            refine lv_if_ne (tgt := 85) hx hb dL_refusesAny_78 (by decide) (fun c_64 => ?_) (fun c_64 => ?_)
            · skip
              exact absurd ((nI_eq (a := (X % 2)) (b := 0) (by omega) (by omega)).mpr (by omega)) c_64
            · skip
              refine lv_iconst (v := (-1)) hx hb dL_refusesAny_81 (by decide) ?_
              refine lv_goto (tgt := 86) hx hb dL_refusesAny_82 (by decide) ?_
              refine lv_iconst (v := nI 5) hx hb dL_refusesAny_86 (by decide) ?_
              refine h_op (st := []) C hS hP hD hl.1 (k_set_out (-1) (nI 5) (by decide)) gL_refusesAny_X4_set rfl hd_set ⟨Nat.le_of_ble_eq_true rfl, Nat.le_of_ble_eq_true rfl⟩ rfl rfl (Nat.le_of_ble_eq_true rfl) dL_refusesAny_87 ⟨Nat.le_of_ble_eq_true rfl, Nat.le_of_ble_eq_true rfl⟩ (fun H locs hP hD hS => ?_)
              refine lv_bipush (v := (-2)) hx hb dL_refusesAny_90 (by decide) ?_
              refine lv_icmp_ne (tgt := 372) hx hb dL_refusesAny_92 (by decide) (fun c_65 => ?_) (fun c_65 => ?_)
              · skip
                exact absurd (by decide) c_65
              · skip
                refine lv_aload_n hx hb dL_refusesAny_95 rfl (lv_at hl 4 rfl) ?_
                refine lv_iconst (v := nI 0) hx hb dL_refusesAny_96 (by decide) ?_
                refine lv_iload_n hx hb dL_refusesAny_97 rfl (lv_at hl 5 rfl) ?_
                refine lv_iconst (v := nI 2) hx hb dL_refusesAny_98 (by decide) ?_
                refine lv_irem hx hb dL_refusesAny_99 (by decide) ?_
                refine lv_eqi (pk_rem (by omega) (by omega) (by omega)) ?_
                refine lv_if_ne (tgt := 107) hx hb dL_refusesAny_100 (by decide) (fun c_66 => ?_) (fun c_66 => ?_)
                · skip
                  exact absurd ((nI_eq (a := (X % 2)) (b := 0) (by omega) (by omega)).mpr (by omega)) c_66
                · skip
                  refine lv_iconst (v := (-1)) hx hb dL_refusesAny_103 (by decide) ?_
                  refine lv_goto (tgt := 109) hx hb dL_refusesAny_104 (by decide) ?_
                  refine h_op (st := []) C hS hP hD hl.1 (k_set_bad (k := 0) (by decide) (-1) (by decide)) gL_refusesAny_X4_set rfl hd_set ⟨Nat.le_of_ble_eq_true rfl, Nat.le_of_ble_eq_true rfl⟩ rfl rfl (Nat.le_of_ble_eq_true rfl) dL_refusesAny_109 ⟨Nat.le_of_ble_eq_true rfl, Nat.le_of_ble_eq_true rfl⟩ (fun H locs hP hD hS => ?_)
                  refine lv_bipush (v := (-2)) hx hb dL_refusesAny_112 (by decide) ?_
                  refine lv_icmp_ne (tgt := 372) hx hb dL_refusesAny_114 (by decide) (fun c_67 => ?_) (fun c_67 => ?_)
                  · skip
                    exact absurd (by decide) c_67
                  · skip
                    refine lv_aload_n hx hb dL_refusesAny_117 rfl (lv_at hl 4 rfl) ?_
                    refine lv_iconst (v := nI 1) hx hb dL_refusesAny_118 (by decide) ?_
                    refine lv_iload_n hx hb dL_refusesAny_119 rfl (lv_at hl 5 rfl) ?_
                    refine lv_iconst (v := nI 2) hx hb dL_refusesAny_120 (by decide) ?_
                    refine lv_irem hx hb dL_refusesAny_121 (by decide) ?_
                    refine lv_eqi (pk_rem (by omega) (by omega) (by omega)) ?_
                    refine lv_if_ne (tgt := 129) hx hb dL_refusesAny_122 (by decide) (fun c_68 => ?_) (fun c_68 => ?_)
                    · skip
                      exact absurd ((nI_eq (a := (X % 2)) (b := 0) (by omega) (by omega)).mpr (by omega)) c_68
                    · skip
                      refine lv_iconst (v := (-1)) hx hb dL_refusesAny_125 (by decide) ?_
                      refine lv_goto (tgt := 131) hx hb dL_refusesAny_126 (by decide) ?_
                      refine h_op (st := []) C hS hP hD hl.1 (k_set_bad (k := 1) (by decide) (-1) (by decide)) gL_refusesAny_X4_set rfl hd_set ⟨Nat.le_of_ble_eq_true rfl, Nat.le_of_ble_eq_true rfl⟩ rfl rfl (Nat.le_of_ble_eq_true rfl) dL_refusesAny_131 ⟨Nat.le_of_ble_eq_true rfl, Nat.le_of_ble_eq_true rfl⟩ (fun H locs hP hD hS => ?_)
                      refine lv_bipush (v := (-2)) hx hb dL_refusesAny_134 (by decide) ?_
                      refine lv_icmp_ne (tgt := 372) hx hb dL_refusesAny_136 (by decide) (fun c_69 => ?_) (fun c_69 => ?_)
                      · skip
                        exact absurd (by decide) c_69
                      · skip
                        refine lv_aload_n hx hb dL_refusesAny_139 rfl (lv_at hl 4 rfl) ?_
                        refine lv_iconst (v := nI 2) hx hb dL_refusesAny_140 (by decide) ?_
                        refine lv_iload_n hx hb dL_refusesAny_141 rfl (lv_at hl 5 rfl) ?_
                        refine lv_iconst (v := nI 2) hx hb dL_refusesAny_142 (by decide) ?_
                        refine lv_irem hx hb dL_refusesAny_143 (by decide) ?_
                        refine lv_eqi (pk_rem (by omega) (by omega) (by omega)) ?_
                        refine lv_if_ne (tgt := 151) hx hb dL_refusesAny_144 (by decide) (fun c_70 => ?_) (fun c_70 => ?_)
                        · skip
                          exact absurd ((nI_eq (a := (X % 2)) (b := 0) (by omega) (by omega)).mpr (by omega)) c_70
                        · skip
                          refine lv_iconst (v := nI 0) hx hb dL_refusesAny_147 (by decide) ?_
                          refine lv_goto (tgt := 153) hx hb dL_refusesAny_148 (by decide) ?_
                          refine h_op (st := []) C hS hP hD hl.1 (k_set_bad (k := 2) (by decide) (nI 0) (by decide)) gL_refusesAny_X4_set rfl hd_set ⟨Nat.le_of_ble_eq_true rfl, Nat.le_of_ble_eq_true rfl⟩ rfl rfl (Nat.le_of_ble_eq_true rfl) dL_refusesAny_153 ⟨Nat.le_of_ble_eq_true rfl, Nat.le_of_ble_eq_true rfl⟩ (fun H locs hP hD hS => ?_)
                          refine lv_bipush (v := (-2)) hx hb dL_refusesAny_156 (by decide) ?_
                          refine lv_icmp_ne (tgt := 372) hx hb dL_refusesAny_158 (by decide) (fun c_71 => ?_) (fun c_71 => ?_)
                          · skip
                            exact absurd (by decide) c_71
                          · skip
                            refine lv_aload_n hx hb dL_refusesAny_161 rfl (lv_at hl 4 rfl) ?_
                            refine lv_iconst (v := nI 3) hx hb dL_refusesAny_162 (by decide) ?_
                            refine lv_iload_n hx hb dL_refusesAny_163 rfl (lv_at hl 5 rfl) ?_
                            refine lv_iconst (v := nI 2) hx hb dL_refusesAny_164 (by decide) ?_
                            refine lv_irem hx hb dL_refusesAny_165 (by decide) ?_
                            refine lv_eqi (pk_rem (by omega) (by omega) (by omega)) ?_
                            refine lv_if_ne (tgt := 173) hx hb dL_refusesAny_166 (by decide) (fun c_72 => ?_) (fun c_72 => ?_)
                            · skip
                              exact absurd ((nI_eq (a := (X % 2)) (b := 0) (by omega) (by omega)).mpr (by omega)) c_72
                            · skip
                              refine lv_iconst (v := nI 0) hx hb dL_refusesAny_169 (by decide) ?_
                              refine lv_goto (tgt := 175) hx hb dL_refusesAny_170 (by decide) ?_
                              refine h_op (st := []) C hS hP hD hl.1 (k_set_bad (k := 3) (by decide) (nI 0) (by decide)) gL_refusesAny_X4_set rfl hd_set ⟨Nat.le_of_ble_eq_true rfl, Nat.le_of_ble_eq_true rfl⟩ rfl rfl (Nat.le_of_ble_eq_true rfl) dL_refusesAny_175 ⟨Nat.le_of_ble_eq_true rfl, Nat.le_of_ble_eq_true rfl⟩ (fun H locs hP hD hS => ?_)
                              refine lv_bipush (v := (-2)) hx hb dL_refusesAny_178 (by decide) ?_
                              refine lv_icmp_ne (tgt := 372) hx hb dL_refusesAny_180 (by decide) (fun c_73 => ?_) (fun c_73 => ?_)
                              · skip
                                exact absurd (by decide) c_73
                              · skip
                                refine lv_aload_n hx hb dL_refusesAny_183 rfl (lv_at hl 4 rfl) ?_
                                refine lv_iload_n hx hb dL_refusesAny_184 rfl (lv_at hl 3 rfl) ?_
                                refine lv_iconst (v := nI 0) hx hb dL_refusesAny_185 (by decide) ?_
                                refine h_op (st := []) C hS hP hD hl.1 (k_brim_out pu (nI 0) hpub) gL_refusesAny_X4_brim rfl hd_brim ⟨Nat.le_of_ble_eq_true rfl, Nat.le_of_ble_eq_true rfl⟩ rfl rfl (Nat.le_of_ble_eq_true rfl) dL_refusesAny_186 ⟨Nat.le_of_ble_eq_true rfl, Nat.le_of_ble_eq_true rfl⟩ (fun H locs hP hD hS => ?_)
                                refine lv_iconst (v := (-1)) hx hb dL_refusesAny_189 (by decide) ?_
                                refine lv_icmp_ne (tgt := 372) hx hb dL_refusesAny_190 (by decide) (fun c_74 => ?_) (fun c_74 => ?_)
                                · skip
                                  exact absurd (by decide) c_74
                                · skip
                                  refine lv_aload_n hx hb dL_refusesAny_193 rfl (lv_at hl 4 rfl) ?_
                                  refine lv_iload hx hb dL_refusesAny_194 (lv_at hl 1 rfl) ?_
                                  refine lv_iload_n hx hb dL_refusesAny_196 rfl (lv_at hl 5 rfl) ?_
                                  refine lv_iconst (v := nI 2) hx hb dL_refusesAny_197 (by decide) ?_
                                  refine lv_irem hx hb dL_refusesAny_198 (by decide) ?_
                                  refine lv_eqi (pk_rem (by omega) (by omega) (by omega)) ?_
                                  refine lv_if_ne (tgt := 206) hx hb dL_refusesAny_199 (by decide) (fun c_75 => ?_) (fun c_75 => ?_)
                                  · skip
                                    exact absurd ((nI_eq (a := (X % 2)) (b := 0) (by omega) (by omega)).mpr (by omega)) c_75
                                  · skip
                                    refine lv_iconst (v := nI 0) hx hb dL_refusesAny_202 (by decide) ?_
                                    refine lv_goto (tgt := 208) hx hb dL_refusesAny_203 (by decide) ?_
                                    refine h_op (st := []) C hS hP hD hl.1 (k_brim_bad (p := X % 12) (by omega) (nI 0) (by decide)) gL_refusesAny_X4_brim rfl hd_brim ⟨Nat.le_of_ble_eq_true rfl, Nat.le_of_ble_eq_true rfl⟩ rfl rfl (Nat.le_of_ble_eq_true rfl) dL_refusesAny_208 ⟨Nat.le_of_ble_eq_true rfl, Nat.le_of_ble_eq_true rfl⟩ (fun H locs hP hD hS => ?_)
                                    refine lv_bipush (v := (-2)) hx hb dL_refusesAny_211 (by decide) ?_
                                    refine lv_icmp_ne (tgt := 372) hx hb dL_refusesAny_213 (by decide) (fun c_76 => ?_) (fun c_76 => ?_)
                                    · skip
                                      exact absurd (by decide) c_76
                                    · skip
                                      refine lv_aload_n hx hb dL_refusesAny_216 rfl (lv_at hl 4 rfl) ?_
                                      refine lv_iload_n hx hb dL_refusesAny_217 rfl (lv_at hl 3 rfl) ?_
                                      refine h_op (st := []) C hS hP hD hl.1 (k_drain_out pu hpub) gL_refusesAny_X4_drain rfl hd_drain ⟨Nat.le_of_ble_eq_true rfl, Nat.le_of_ble_eq_true rfl⟩ rfl rfl (Nat.le_of_ble_eq_true rfl) dL_refusesAny_218 ⟨Nat.le_of_ble_eq_true rfl, Nat.le_of_ble_eq_true rfl⟩ (fun H locs hP hD hS => ?_)
                                      refine lv_iconst (v := (-1)) hx hb dL_refusesAny_221 (by decide) ?_
                                      refine lv_icmp_ne (tgt := 372) hx hb dL_refusesAny_222 (by decide) (fun c_77 => ?_) (fun c_77 => ?_)
                                      · skip
                                        exact absurd (by decide) c_77
                                      · skip
                                        refine lv_iload hx hb dL_refusesAny_225 (lv_at hl 0 rfl) ?_
                                        refine lv_if_eq (tgt := 253) hx hb dL_refusesAny_227 (by decide) (fun c_78 => ?_) (fun c_78 => ?_)
                                        · skip
                                          exact absurd c_78 (by decide)
                                        · skip
                                          refine lv_aload_n hx hb dL_refusesAny_230 rfl (lv_at hl 4 rfl) ?_
                                          refine lv_iload hx hb dL_refusesAny_231 (lv_at hl 1 rfl) ?_
                                          refine h_op (st := []) C hS hP hD hl.1 (k_drain_ducks (p := X % 12) (by omega) hd) gL_refusesAny_X4_drain rfl hd_drain ⟨Nat.le_of_ble_eq_true rfl, Nat.le_of_ble_eq_true rfl⟩ rfl rfl (Nat.le_of_ble_eq_true rfl) dL_refusesAny_233 ⟨Nat.le_of_ble_eq_true rfl, Nat.le_of_ble_eq_true rfl⟩ (fun H locs hP hD hS => ?_)
                                          refine lv_bipush (v := (-5)) hx hb dL_refusesAny_236 (by decide) ?_
                                          refine lv_icmp_ne (tgt := 372) hx hb dL_refusesAny_238 (by decide) (fun c_79 => ?_) (fun c_79 => ?_)
                                          · skip
                                            exact absurd (by decide) c_79
                                          · skip
                                            refine lv_aload_n hx hb dL_refusesAny_241 rfl (lv_at hl 4 rfl) ?_
                                            refine lv_iconst (v := nI 0) hx hb dL_refusesAny_242 (by decide) ?_
                                            refine lv_iload hx hb dL_refusesAny_243 (lv_at hl 1 rfl) ?_
                                            refine h_op (st := []) C hS hP hD hl.1 (k_permit_ducks (w := 0) (p := X % 12) (by omega) (by omega) hd) gL_refusesAny_X4_permit rfl hd_permit ⟨Nat.le_of_ble_eq_true rfl, Nat.le_of_ble_eq_true rfl⟩ rfl rfl (Nat.le_of_ble_eq_true rfl) dL_refusesAny_245 ⟨Nat.le_of_ble_eq_true rfl, Nat.le_of_ble_eq_true rfl⟩ (fun H locs hP hD hS => ?_)
                                            refine lv_bipush (v := (-5)) hx hb dL_refusesAny_248 (by decide) ?_
                                            refine lv_icmp_ne (tgt := 372) hx hb dL_refusesAny_250 (by decide) (fun c_80 => ?_) (fun c_80 => ?_)
                                            · skip
                                              exact absurd (by decide) c_80
                                            · skip
                                              refine lv_aload_n hx hb dL_refusesAny_253 rfl (lv_at hl 4 rfl) ?_
                                              refine lv_iload_n hx hb dL_refusesAny_254 rfl (lv_at hl 2 rfl) ?_
                                              refine lv_bipush (v := nI 9) hx hb dL_refusesAny_255 (by decide) ?_
                                              refine h_op (st := []) C hS hP hD hl.1 (k_shoes_out wk (nI 9) hwkb) gL_refusesAny_X4_shoes rfl hd_shoes ⟨Nat.le_of_ble_eq_true rfl, Nat.le_of_ble_eq_true rfl⟩ rfl rfl (Nat.le_of_ble_eq_true rfl) dL_refusesAny_257 ⟨Nat.le_of_ble_eq_true rfl, Nat.le_of_ble_eq_true rfl⟩ (fun H locs hP hD hS => ?_)
                                              refine lv_iconst (v := (-1)) hx hb dL_refusesAny_260 (by decide) ?_
                                              refine lv_icmp_ne (tgt := 372) hx hb dL_refusesAny_261 (by decide) (fun c_81 => ?_) (fun c_81 => ?_)
                                              · skip
                                                exact absurd (by decide) c_81
                                              · skip
                                                refine lv_aload_n hx hb dL_refusesAny_264 rfl (lv_at hl 4 rfl) ?_
                                                refine lv_iconst (v := nI 0) hx hb dL_refusesAny_265 (by decide) ?_
                                                refine lv_iload_n hx hb dL_refusesAny_266 rfl (lv_at hl 5 rfl) ?_
                                                refine lv_iconst (v := nI 2) hx hb dL_refusesAny_267 (by decide) ?_
                                                refine lv_irem hx hb dL_refusesAny_268 (by decide) ?_
                                                refine lv_eqi (pk_rem (by omega) (by omega) (by omega)) ?_
                                                refine lv_if_ne (tgt := 276) hx hb dL_refusesAny_269 (by decide) (fun c_82 => ?_) (fun c_82 => ?_)
                                                · skip
                                                  exact absurd ((nI_eq (a := (X % 2)) (b := 0) (by omega) (by omega)).mpr (by omega)) c_82
                                                · skip
                                                  refine lv_iconst (v := (-1)) hx hb dL_refusesAny_272 (by decide) ?_
                                                  refine lv_goto (tgt := 277) hx hb dL_refusesAny_273 (by decide) ?_
                                                  refine h_op (st := []) C hS hP hD hl.1 (k_shoes_bad (w := 0) (by omega) (-1) (by decide)) gL_refusesAny_X4_shoes rfl hd_shoes ⟨Nat.le_of_ble_eq_true rfl, Nat.le_of_ble_eq_true rfl⟩ rfl rfl (Nat.le_of_ble_eq_true rfl) dL_refusesAny_277 ⟨Nat.le_of_ble_eq_true rfl, Nat.le_of_ble_eq_true rfl⟩ (fun H locs hP hD hS => ?_)
                                                  refine lv_bipush (v := (-2)) hx hb dL_refusesAny_280 (by decide) ?_
                                                  refine lv_icmp_ne (tgt := 372) hx hb dL_refusesAny_282 (by decide) (fun c_83 => ?_) (fun c_83 => ?_)
                                                  · skip
                                                    exact absurd (by decide) c_83
                                                  · skip
                                                    refine lv_aload_n hx hb dL_refusesAny_285 rfl (lv_at hl 4 rfl) ?_
                                                    refine lv_iload_n hx hb dL_refusesAny_286 rfl (lv_at hl 2 rfl) ?_
                                                    refine lv_iconst (v := nI 0) hx hb dL_refusesAny_287 (by decide) ?_
                                                    refine h_op (st := []) C hS hP hD hl.1 (k_permit_outw wk (nI 0) hwkb) gL_refusesAny_X4_permit rfl hd_permit ⟨Nat.le_of_ble_eq_true rfl, Nat.le_of_ble_eq_true rfl⟩ rfl rfl (Nat.le_of_ble_eq_true rfl) dL_refusesAny_288 ⟨Nat.le_of_ble_eq_true rfl, Nat.le_of_ble_eq_true rfl⟩ (fun H locs hP hD hS => ?_)
                                                    refine lv_iconst (v := (-1)) hx hb dL_refusesAny_291 (by decide) ?_
                                                    refine lv_icmp_ne (tgt := 372) hx hb dL_refusesAny_292 (by decide) (fun c_84 => ?_) (fun c_84 => ?_)
                                                    · skip
                                                      exact absurd (by decide) c_84
                                                    · skip
                                                      refine lv_aload_n hx hb dL_refusesAny_295 rfl (lv_at hl 4 rfl) ?_
                                                      refine lv_iconst (v := nI 0) hx hb dL_refusesAny_296 (by decide) ?_
                                                      refine lv_iload_n hx hb dL_refusesAny_297 rfl (lv_at hl 3 rfl) ?_
                                                      refine h_op (st := []) C hS hP hD hl.1 (k_permit_outp (w := 0) (by omega) pu hpub) gL_refusesAny_X4_permit rfl hd_permit ⟨Nat.le_of_ble_eq_true rfl, Nat.le_of_ble_eq_true rfl⟩ rfl rfl (Nat.le_of_ble_eq_true rfl) dL_refusesAny_298 ⟨Nat.le_of_ble_eq_true rfl, Nat.le_of_ble_eq_true rfl⟩ (fun H locs hP hD hS => ?_)
                                                      refine lv_iconst (v := (-1)) hx hb dL_refusesAny_301 (by decide) ?_
                                                      refine lv_icmp_ne (tgt := 372) hx hb dL_refusesAny_302 (by decide) (fun c_85 => ?_) (fun c_85 => ?_)
                                                      · skip
                                                        exact absurd (by decide) c_85
                                                      · skip
                                                        refine lv_aload_n hx hb dL_refusesAny_305 rfl (lv_at hl 4 rfl) ?_
                                                        refine lv_iload_n hx hb dL_refusesAny_306 rfl (lv_at hl 2 rfl) ?_
                                                        refine lv_iconst (v := nI 0) hx hb dL_refusesAny_307 (by decide) ?_
                                                        refine lv_iconst (v := nI 0) hx hb dL_refusesAny_308 (by decide) ?_
                                                        refine h_op (st := []) C hS hP hD hl.1 (k_walk_outw wk (nI 0) (nI 0) hwkb) gL_refusesAny_X4_walk rfl hd_walk ⟨Nat.le_of_ble_eq_true rfl, Nat.le_of_ble_eq_true rfl⟩ rfl rfl (Nat.le_of_ble_eq_true rfl) dL_refusesAny_309 ⟨Nat.le_of_ble_eq_true rfl, Nat.le_of_ble_eq_true rfl⟩ (fun H locs hP hD hS => ?_)
                                                        refine lv_iconst (v := (-1)) hx hb dL_refusesAny_312 (by decide) ?_
                                                        refine lv_icmp_ne (tgt := 372) hx hb dL_refusesAny_313 (by decide) (fun c_86 => ?_) (fun c_86 => ?_)
                                                        · skip
                                                          exact absurd (by decide) c_86
                                                        · skip
                                                          refine lv_aload_n hx hb dL_refusesAny_316 rfl (lv_at hl 4 rfl) ?_
                                                          refine lv_iconst (v := nI 0) hx hb dL_refusesAny_317 (by decide) ?_
                                                          refine lv_iload_n hx hb dL_refusesAny_318 rfl (lv_at hl 3 rfl) ?_
                                                          refine lv_iconst (v := nI 0) hx hb dL_refusesAny_319 (by decide) ?_
                                                          refine h_op (st := []) C hS hP hD hl.1 (k_walk_outf (w := 0) (by omega) pu (nI 0) hpub) gL_refusesAny_X4_walk rfl hd_walk ⟨Nat.le_of_ble_eq_true rfl, Nat.le_of_ble_eq_true rfl⟩ rfl rfl (Nat.le_of_ble_eq_true rfl) dL_refusesAny_320 ⟨Nat.le_of_ble_eq_true rfl, Nat.le_of_ble_eq_true rfl⟩ (fun H locs hP hD hS => ?_)
                                                          refine lv_iconst (v := (-1)) hx hb dL_refusesAny_323 (by decide) ?_
                                                          refine lv_icmp_ne (tgt := 372) hx hb dL_refusesAny_324 (by decide) (fun c_87 => ?_) (fun c_87 => ?_)
                                                          · skip
                                                            exact absurd (by decide) c_87
                                                          · skip
                                                            refine lv_aload_n hx hb dL_refusesAny_327 rfl (lv_at hl 4 rfl) ?_
                                                            refine lv_iconst (v := nI 0) hx hb dL_refusesAny_328 (by decide) ?_
                                                            refine lv_iconst (v := nI 0) hx hb dL_refusesAny_329 (by decide) ?_
                                                            refine lv_iload_n hx hb dL_refusesAny_330 rfl (lv_at hl 3 rfl) ?_
                                                            refine h_op (st := []) C hS hP hD hl.1 (k_walk_outt (w := 0) (f := 0) (by omega) (by omega) pu hpub) gL_refusesAny_X4_walk rfl hd_walk ⟨Nat.le_of_ble_eq_true rfl, Nat.le_of_ble_eq_true rfl⟩ rfl rfl (Nat.le_of_ble_eq_true rfl) dL_refusesAny_331 ⟨Nat.le_of_ble_eq_true rfl, Nat.le_of_ble_eq_true rfl⟩ (fun H locs hP hD hS => ?_)
                                                            refine lv_iconst (v := (-1)) hx hb dL_refusesAny_334 (by decide) ?_
                                                            refine lv_icmp_ne (tgt := 372) hx hb dL_refusesAny_335 (by decide) (fun c_88 => ?_) (fun c_88 => ?_)
                                                            · skip
                                                              exact absurd (by decide) c_88
                                                            · skip
                                                              refine lv_aload_n hx hb dL_refusesAny_338 rfl (lv_at hl 4 rfl) ?_
                                                              refine lv_iload_n hx hb dL_refusesAny_339 rfl (lv_at hl 2 rfl) ?_
                                                              refine h_op (st := []) C hS hP hD hl.1 (k_pay_out wk hwkb) gL_refusesAny_X4_pay rfl hd_pay ⟨Nat.le_of_ble_eq_true rfl, Nat.le_of_ble_eq_true rfl⟩ rfl rfl (Nat.le_of_ble_eq_true rfl) dL_refusesAny_340 ⟨Nat.le_of_ble_eq_true rfl, Nat.le_of_ble_eq_true rfl⟩ (fun H locs hP hD hS => ?_)
                                                              refine lv_iconst (v := (-1)) hx hb dL_refusesAny_343 (by decide) ?_
                                                              refine lv_icmp_ne (tgt := 372) hx hb dL_refusesAny_344 (by decide) (fun c_89 => ?_) (fun c_89 => ?_)
                                                              · skip
                                                                exact absurd (by decide) c_89
                                                              · skip
                                                                refine lv_aload_n hx hb dL_refusesAny_347 rfl (lv_at hl 4 rfl) ?_
                                                                refine lv_iload_n hx hb dL_refusesAny_348 rfl (lv_at hl 5 rfl) ?_
                                                                refine lv_iconst (v := nI 2) hx hb dL_refusesAny_349 (by decide) ?_
                                                                refine lv_irem hx hb dL_refusesAny_350 (by decide) ?_
                                                                refine lv_eqi (pk_rem (by omega) (by omega) (by omega)) ?_
                                                                refine lv_if_ne (tgt := 358) hx hb dL_refusesAny_351 (by decide) (fun c_90 => ?_) (fun c_90 => ?_)
                                                                · skip
                                                                  exact absurd ((nI_eq (a := (X % 2)) (b := 0) (by omega) (by omega)).mpr (by omega)) c_90
                                                                · skip
                                                                  refine lv_iconst (v := (-1)) hx hb dL_refusesAny_354 (by decide) ?_
                                                                  refine lv_goto (tgt := 360) hx hb dL_refusesAny_355 (by decide) ?_
                                                                  refine h_op (st := []) C hS hP hD hl.1 (k_pass_out (-1) (by decide)) gL_refusesAny_X4_pass rfl hd_pass ⟨Nat.le_of_ble_eq_true rfl, Nat.le_of_ble_eq_true rfl⟩ rfl rfl (Nat.le_of_ble_eq_true rfl) dL_refusesAny_360 ⟨Nat.le_of_ble_eq_true rfl, Nat.le_of_ble_eq_true rfl⟩ (fun H locs hP hD hS => ?_)
                                                                  refine lv_bipush (v := (-2)) hx hb dL_refusesAny_363 (by decide) ?_
                                                                  refine lv_icmp_ne (tgt := 372) hx hb dL_refusesAny_365 (by decide) (fun c_91 => ?_) (fun c_91 => ?_)
                                                                  · skip
                                                                    exact absurd (by decide) c_91
                                                                  · skip
                                                                    refine lv_iconst (v := nI 1) hx hb dL_refusesAny_368 (by decide) ?_
                                                                    refine lv_goto (tgt := 373) hx hb dL_refusesAny_369 (by decide) ?_
                                                                    refine lv_istore (lv' := [(6, .int (nI 1)), (5, .int (nI 1)), (4, .int (nI (X % 12))), (3, .int wk), (2, .int pu), (0, .ref B.1.1), (1, .int (nI X))]) hx hb dL_refusesAny_373 hl (by decide) rfl (fun ls hl => ?_)
                                                                    refine lv_iload hx hb dL_refusesAny_375 (lv_at hl 0 rfl) ?_
                                                                    refine lv_if_eq (tgt := 664) hx hb dL_refusesAny_377 (by decide) (fun c_92 => ?_) (fun c_92 => ?_)
                                                                    · skip
                                                                      exact absurd c_92 (by decide)
                                                                    · skip
                                                                      refine lv_aload_n hx hb dL_refusesAny_380 rfl (lv_at hl 5 rfl) ?_
                                                                      refine lv_iload_n hx hb dL_refusesAny_381 rfl (lv_at hl 4 rfl) ?_
                                                                      refine lv_bipush (v := nI 99) hx hb dL_refusesAny_382 (by decide) ?_
                                                                      refine h_op (st := []) C hS hP hD hl.1 (k_puddle_out pu (nI 99) hpub) gL_refusesAny_X4_puddle rfl hd_puddle ⟨Nat.le_of_ble_eq_true rfl, Nat.le_of_ble_eq_true rfl⟩ rfl rfl (Nat.le_of_ble_eq_true rfl) dL_refusesAny_384 ⟨Nat.le_of_ble_eq_true rfl, Nat.le_of_ble_eq_true rfl⟩ (fun H locs hP hD hS => ?_)
                                                                      refine lv_iconst (v := (-1)) hx hb dL_refusesAny_387 (by decide) ?_
                                                                      refine lv_icmp_ne (tgt := 664) hx hb dL_refusesAny_388 (by decide) (fun c_93 => ?_) (fun c_93 => ?_)
                                                                      · skip
                                                                        exact absurd (by decide) c_93
                                                                      · skip
                                                                        refine lv_aload_n hx hb dL_refusesAny_391 rfl (lv_at hl 5 rfl) ?_
                                                                        refine lv_iload hx hb dL_refusesAny_392 (lv_at hl 2 rfl) ?_
                                                                        refine lv_iload_n hx hb dL_refusesAny_394 rfl (lv_at hl 6 rfl) ?_
                                                                        refine lv_iconst (v := nI 2) hx hb dL_refusesAny_395 (by decide) ?_
                                                                        refine lv_irem hx hb dL_refusesAny_396 (by decide) ?_
                                                                        refine lv_eqi (pk_rem (by omega) (by omega) (by omega)) ?_
                                                                        refine lv_if_ne (tgt := 404) hx hb dL_refusesAny_397 (by decide) (fun c_94 => ?_) (fun c_94 => ?_)
                                                                        · skip
                                                                          exact absurd ((nI_eq (a := (X % 2)) (b := 0) (by omega) (by omega)).mpr (by omega)) c_94
                                                                        · skip
                                                                          refine lv_iconst (v := (-1)) hx hb dL_refusesAny_400 (by decide) ?_
                                                                          refine lv_goto (tgt := 406) hx hb dL_refusesAny_401 (by decide) ?_
                                                                          refine h_op (st := []) C hS hP hD hl.1 (k_puddle_bad (p := X % 12) (by omega) (-1) (by decide)) gL_refusesAny_X4_puddle rfl hd_puddle ⟨Nat.le_of_ble_eq_true rfl, Nat.le_of_ble_eq_true rfl⟩ rfl rfl (Nat.le_of_ble_eq_true rfl) dL_refusesAny_406 ⟨Nat.le_of_ble_eq_true rfl, Nat.le_of_ble_eq_true rfl⟩ (fun H locs hP hD hS => ?_)
                                                                          refine lv_bipush (v := (-2)) hx hb dL_refusesAny_409 (by decide) ?_
                                                                          refine lv_icmp_ne (tgt := 664) hx hb dL_refusesAny_411 (by decide) (fun c_95 => ?_) (fun c_95 => ?_)
                                                                          · skip
                                                                            exact absurd (by decide) c_95
                                                                          · skip
                                                                            refine lv_aload_n hx hb dL_refusesAny_414 rfl (lv_at hl 5 rfl) ?_
                                                                            refine lv_iload_n hx hb dL_refusesAny_415 rfl (lv_at hl 3 rfl) ?_
                                                                            refine lv_bipush (v := nI 99) hx hb dL_refusesAny_416 (by decide) ?_
                                                                            refine h_op (st := []) C hS hP hD hl.1 (k_walker_out wk (nI 99) hwkb) gL_refusesAny_X4_walker rfl hd_walker ⟨Nat.le_of_ble_eq_true rfl, Nat.le_of_ble_eq_true rfl⟩ rfl rfl (Nat.le_of_ble_eq_true rfl) dL_refusesAny_418 ⟨Nat.le_of_ble_eq_true rfl, Nat.le_of_ble_eq_true rfl⟩ (fun H locs hP hD hS => ?_)
                                                                            refine lv_iconst (v := (-1)) hx hb dL_refusesAny_421 (by decide) ?_
                                                                            refine lv_icmp_ne (tgt := 664) hx hb dL_refusesAny_422 (by decide) (fun c_96 => ?_) (fun c_96 => ?_)
                                                                            · skip
                                                                              exact absurd (by decide) c_96
                                                                            · skip
                                                                              refine lv_aload_n hx hb dL_refusesAny_425 rfl (lv_at hl 5 rfl) ?_
                                                                              refine lv_iconst (v := nI 0) hx hb dL_refusesAny_426 (by decide) ?_
                                                                              refine lv_iload_n hx hb dL_refusesAny_427 rfl (lv_at hl 6 rfl) ?_
                                                                              refine lv_iconst (v := nI 2) hx hb dL_refusesAny_428 (by decide) ?_
                                                                              refine lv_irem hx hb dL_refusesAny_429 (by decide) ?_
                                                                              refine lv_eqi (pk_rem (by omega) (by omega) (by omega)) ?_
                                                                              refine lv_if_ne (tgt := 437) hx hb dL_refusesAny_430 (by decide) (fun c_97 => ?_) (fun c_97 => ?_)
                                                                              · skip
                                                                                exact absurd ((nI_eq (a := (X % 2)) (b := 0) (by omega) (by omega)).mpr (by omega)) c_97
                                                                              · skip
                                                                                refine lv_iconst (v := (-1)) hx hb dL_refusesAny_433 (by decide) ?_
                                                                                refine lv_goto (tgt := 439) hx hb dL_refusesAny_434 (by decide) ?_
                                                                                refine h_op (st := []) C hS hP hD hl.1 (k_walker_bad (w := 0) (by omega) (-1) (by decide)) gL_refusesAny_X4_walker rfl hd_walker ⟨Nat.le_of_ble_eq_true rfl, Nat.le_of_ble_eq_true rfl⟩ rfl rfl (Nat.le_of_ble_eq_true rfl) dL_refusesAny_439 ⟨Nat.le_of_ble_eq_true rfl, Nat.le_of_ble_eq_true rfl⟩ (fun H locs hP hD hS => ?_)
                                                                                refine lv_bipush (v := (-2)) hx hb dL_refusesAny_442 (by decide) ?_
                                                                                refine lv_icmp_ne (tgt := 664) hx hb dL_refusesAny_444 (by decide) (fun c_98 => ?_) (fun c_98 => ?_)
                                                                                · skip
                                                                                  exact absurd (by decide) c_98
                                                                                · skip
                                                                                  refine lv_aload_n hx hb dL_refusesAny_447 rfl (lv_at hl 5 rfl) ?_
                                                                                  refine lv_iload_n hx hb dL_refusesAny_448 rfl (lv_at hl 3 rfl) ?_
                                                                                  refine lv_iconst (v := nI 0) hx hb dL_refusesAny_449 (by decide) ?_
                                                                                  refine h_op (st := []) C hS hP hD hl.1 (k_why_outw wk (nI 0) hwkb) gL_refusesAny_X4_why rfl hd_why ⟨Nat.le_of_ble_eq_true rfl, Nat.le_of_ble_eq_true rfl⟩ rfl rfl (Nat.le_of_ble_eq_true rfl) dL_refusesAny_450 ⟨Nat.le_of_ble_eq_true rfl, Nat.le_of_ble_eq_true rfl⟩ (fun H locs hP hD hS => ?_)
                                                                                  refine lv_iconst (v := (-1)) hx hb dL_refusesAny_453 (by decide) ?_
                                                                                  refine lv_icmp_ne (tgt := 664) hx hb dL_refusesAny_454 (by decide) (fun c_99 => ?_) (fun c_99 => ?_)
                                                                                  · skip
                                                                                    exact absurd (by decide) c_99
                                                                                  · skip
                                                                                    refine lv_aload_n hx hb dL_refusesAny_457 rfl (lv_at hl 5 rfl) ?_
                                                                                    refine lv_iconst (v := nI 0) hx hb dL_refusesAny_458 (by decide) ?_
                                                                                    refine lv_iload_n hx hb dL_refusesAny_459 rfl (lv_at hl 4 rfl) ?_
                                                                                    refine h_op (st := []) C hS hP hD hl.1 (k_why_outp (w := 0) (by omega) pu hpub) gL_refusesAny_X4_why rfl hd_why ⟨Nat.le_of_ble_eq_true rfl, Nat.le_of_ble_eq_true rfl⟩ rfl rfl (Nat.le_of_ble_eq_true rfl) dL_refusesAny_460 ⟨Nat.le_of_ble_eq_true rfl, Nat.le_of_ble_eq_true rfl⟩ (fun H locs hP hD hS => ?_)
                                                                                    refine lv_iconst (v := (-1)) hx hb dL_refusesAny_463 (by decide) ?_
                                                                                    refine lv_icmp_ne (tgt := 664) hx hb dL_refusesAny_464 (by decide) (fun c_100 => ?_) (fun c_100 => ?_)
                                                                                    · skip
                                                                                      exact absurd (by decide) c_100
                                                                                    · skip
                                                                                      refine lv_aload_n hx hb dL_refusesAny_467 rfl (lv_at hl 5 rfl) ?_
                                                                                      refine lv_iload_n hx hb dL_refusesAny_468 rfl (lv_at hl 3 rfl) ?_
                                                                                      refine lv_iconst (v := nI 0) hx hb dL_refusesAny_469 (by decide) ?_
                                                                                      refine h_op (st := []) C hS hP hD hl.1 (k_holds_outw wk (nI 0) hwkb) gL_refusesAny_X4_holds rfl hd_holds ⟨Nat.le_of_ble_eq_true rfl, Nat.le_of_ble_eq_true rfl⟩ rfl rfl (Nat.le_of_ble_eq_true rfl) dL_refusesAny_470 ⟨Nat.le_of_ble_eq_true rfl, Nat.le_of_ble_eq_true rfl⟩ (fun H locs hP hD hS => ?_)
                                                                                      refine lv_iconst (v := (-1)) hx hb dL_refusesAny_473 (by decide) ?_
                                                                                      refine lv_icmp_ne (tgt := 664) hx hb dL_refusesAny_474 (by decide) (fun c_101 => ?_) (fun c_101 => ?_)
                                                                                      · skip
                                                                                        exact absurd (by decide) c_101
                                                                                      · skip
                                                                                        refine lv_aload_n hx hb dL_refusesAny_477 rfl (lv_at hl 5 rfl) ?_
                                                                                        refine lv_iconst (v := nI 0) hx hb dL_refusesAny_478 (by decide) ?_
                                                                                        refine lv_iload_n hx hb dL_refusesAny_479 rfl (lv_at hl 4 rfl) ?_
                                                                                        refine h_op (st := []) C hS hP hD hl.1 (k_holds_outp (w := 0) (by omega) pu hpub) gL_refusesAny_X4_holds rfl hd_holds ⟨Nat.le_of_ble_eq_true rfl, Nat.le_of_ble_eq_true rfl⟩ rfl rfl (Nat.le_of_ble_eq_true rfl) dL_refusesAny_480 ⟨Nat.le_of_ble_eq_true rfl, Nat.le_of_ble_eq_true rfl⟩ (fun H locs hP hD hS => ?_)
                                                                                        refine lv_iconst (v := (-1)) hx hb dL_refusesAny_483 (by decide) ?_
                                                                                        refine lv_icmp_ne (tgt := 664) hx hb dL_refusesAny_484 (by decide) (fun c_102 => ?_) (fun c_102 => ?_)
                                                                                        · skip
                                                                                          exact absurd (by decide) c_102
                                                                                        · skip
                                                                                          refine lv_aload_n hx hb dL_refusesAny_487 rfl (lv_at hl 5 rfl) ?_
                                                                                          refine lv_iload_n hx hb dL_refusesAny_488 rfl (lv_at hl 6 rfl) ?_
                                                                                          refine lv_iconst (v := nI 2) hx hb dL_refusesAny_489 (by decide) ?_
                                                                                          refine lv_irem hx hb dL_refusesAny_490 (by decide) ?_
                                                                                          refine lv_eqi (pk_rem (by omega) (by omega) (by omega)) ?_
                                                                                          refine lv_if_ne (tgt := 498) hx hb dL_refusesAny_491 (by decide) (fun c_103 => ?_) (fun c_103 => ?_)
                                                                                          · skip
                                                                                            exact absurd ((nI_eq (a := (X % 2)) (b := 0) (by omega) (by omega)).mpr (by omega)) c_103
                                                                                          · skip
                                                                                            refine lv_iconst (v := (-1)) hx hb dL_refusesAny_494 (by decide) ?_
                                                                                            refine lv_goto (tgt := 500) hx hb dL_refusesAny_495 (by decide) ?_
                                                                                            refine h_op (st := []) C hS hP hD hl.1 (k_count_bad (-1) (by decide)) gL_refusesAny_X4_count rfl hd_count ⟨Nat.le_of_ble_eq_true rfl, Nat.le_of_ble_eq_true rfl⟩ rfl rfl (Nat.le_of_ble_eq_true rfl) dL_refusesAny_500 ⟨Nat.le_of_ble_eq_true rfl, Nat.le_of_ble_eq_true rfl⟩ (fun H locs hP hD hS => ?_)
                                                                                            refine lv_bipush (v := (-2)) hx hb dL_refusesAny_503 (by decide) ?_
                                                                                            refine lv_icmp_ne (tgt := 664) hx hb dL_refusesAny_505 (by decide) (fun c_104 => ?_) (fun c_104 => ?_)
                                                                                            · skip
                                                                                              exact absurd (by decide) c_104
                                                                                            · skip
                                                                                              refine lv_aload_n hx hb dL_refusesAny_508 rfl (lv_at hl 5 rfl) ?_
                                                                                              refine lv_iload_n hx hb dL_refusesAny_509 rfl (lv_at hl 3 rfl) ?_
                                                                                              refine lv_iconst (v := nI 0) hx hb dL_refusesAny_510 (by decide) ?_
                                                                                              refine lv_iconst (v := nI 0) hx hb dL_refusesAny_511 (by decide) ?_
                                                                                              refine lv_bipush (v := nI 9) hx hb dL_refusesAny_512 (by decide) ?_
                                                                                              refine h_op (st := []) C hS hP hD hl.1 (k_cost_outw wk (nI 0) (nI 0) (nI 9) hwkb) gL_refusesAny_X4_cost rfl hd_cost ⟨Nat.le_of_ble_eq_true rfl, Nat.le_of_ble_eq_true rfl⟩ rfl rfl (Nat.le_of_ble_eq_true rfl) dL_refusesAny_514 ⟨Nat.le_of_ble_eq_true rfl, Nat.le_of_ble_eq_true rfl⟩ (fun H locs hP hD hS => ?_)
                                                                                              refine lv_iconst (v := (-1)) hx hb dL_refusesAny_517 (by decide) ?_
                                                                                              refine lv_icmp_ne (tgt := 664) hx hb dL_refusesAny_518 (by decide) (fun c_105 => ?_) (fun c_105 => ?_)
                                                                                              · skip
                                                                                                exact absurd (by decide) c_105
                                                                                              · skip
                                                                                                refine lv_aload_n hx hb dL_refusesAny_521 rfl (lv_at hl 5 rfl) ?_
                                                                                                refine lv_iconst (v := nI 0) hx hb dL_refusesAny_522 (by decide) ?_
                                                                                                refine lv_iload_n hx hb dL_refusesAny_523 rfl (lv_at hl 4 rfl) ?_
                                                                                                refine lv_iconst (v := nI 0) hx hb dL_refusesAny_524 (by decide) ?_
                                                                                                refine lv_bipush (v := nI 9) hx hb dL_refusesAny_525 (by decide) ?_
                                                                                                refine h_op (st := []) C hS hP hD hl.1 (k_cost_outf (w := 0) (by omega) pu (nI 0) (nI 9) hpub) gL_refusesAny_X4_cost rfl hd_cost ⟨Nat.le_of_ble_eq_true rfl, Nat.le_of_ble_eq_true rfl⟩ rfl rfl (Nat.le_of_ble_eq_true rfl) dL_refusesAny_527 ⟨Nat.le_of_ble_eq_true rfl, Nat.le_of_ble_eq_true rfl⟩ (fun H locs hP hD hS => ?_)
                                                                                                refine lv_iconst (v := (-1)) hx hb dL_refusesAny_530 (by decide) ?_
                                                                                                refine lv_icmp_ne (tgt := 664) hx hb dL_refusesAny_531 (by decide) (fun c_106 => ?_) (fun c_106 => ?_)
                                                                                                · skip
                                                                                                  exact absurd (by decide) c_106
                                                                                                · skip
                                                                                                  refine lv_aload_n hx hb dL_refusesAny_534 rfl (lv_at hl 5 rfl) ?_
                                                                                                  refine lv_iconst (v := nI 0) hx hb dL_refusesAny_535 (by decide) ?_
                                                                                                  refine lv_iconst (v := nI 0) hx hb dL_refusesAny_536 (by decide) ?_
                                                                                                  refine lv_iload_n hx hb dL_refusesAny_537 rfl (lv_at hl 4 rfl) ?_
                                                                                                  refine lv_bipush (v := nI 9) hx hb dL_refusesAny_538 (by decide) ?_
                                                                                                  refine h_op (st := []) C hS hP hD hl.1 (k_cost_outt (w := 0) (f := 0) (by omega) (by omega) pu (nI 9) hpub) gL_refusesAny_X4_cost rfl hd_cost ⟨Nat.le_of_ble_eq_true rfl, Nat.le_of_ble_eq_true rfl⟩ rfl rfl (Nat.le_of_ble_eq_true rfl) dL_refusesAny_540 ⟨Nat.le_of_ble_eq_true rfl, Nat.le_of_ble_eq_true rfl⟩ (fun H locs hP hD hS => ?_)
                                                                                                  refine lv_iconst (v := (-1)) hx hb dL_refusesAny_543 (by decide) ?_
                                                                                                  refine lv_icmp_ne (tgt := 664) hx hb dL_refusesAny_544 (by decide) (fun c_107 => ?_) (fun c_107 => ?_)
                                                                                                  · skip
                                                                                                    exact absurd (by decide) c_107
                                                                                                  · skip
                                                                                                    refine lv_aload_n hx hb dL_refusesAny_547 rfl (lv_at hl 5 rfl) ?_
                                                                                                    refine lv_iconst (v := nI 0) hx hb dL_refusesAny_548 (by decide) ?_
                                                                                                    refine lv_iconst (v := nI 0) hx hb dL_refusesAny_549 (by decide) ?_
                                                                                                    refine lv_iconst (v := nI 0) hx hb dL_refusesAny_550 (by decide) ?_
                                                                                                    refine lv_iload_n hx hb dL_refusesAny_551 rfl (lv_at hl 6 rfl) ?_
                                                                                                    refine lv_iconst (v := nI 2) hx hb dL_refusesAny_552 (by decide) ?_
                                                                                                    refine lv_irem hx hb dL_refusesAny_553 (by decide) ?_
                                                                                                    refine lv_eqi (pk_rem (by omega) (by omega) (by omega)) ?_
                                                                                                    refine lv_if_ne (tgt := 561) hx hb dL_refusesAny_554 (by decide) (fun c_108 => ?_) (fun c_108 => ?_)
                                                                                                    · skip
                                                                                                      exact absurd ((nI_eq (a := (X % 2)) (b := 0) (by omega) (by omega)).mpr (by omega)) c_108
                                                                                                    · skip
                                                                                                      refine lv_iconst (v := (-1)) hx hb dL_refusesAny_557 (by decide) ?_
                                                                                                      refine lv_goto (tgt := 562) hx hb dL_refusesAny_558 (by decide) ?_
                                                                                                      refine h_op (st := []) C hS hP hD hl.1 (k_cost_bad (w := 0) (f := 0) (t := 0) (by omega) (by omega) (by omega) (-1) (by decide) (by decide)) gL_refusesAny_X4_cost rfl hd_cost ⟨Nat.le_of_ble_eq_true rfl, Nat.le_of_ble_eq_true rfl⟩ rfl rfl (Nat.le_of_ble_eq_true rfl) dL_refusesAny_562 ⟨Nat.le_of_ble_eq_true rfl, Nat.le_of_ble_eq_true rfl⟩ (fun H locs hP hD hS => ?_)
                                                                                                      refine lv_bipush (v := (-2)) hx hb dL_refusesAny_565 (by decide) ?_
                                                                                                      refine lv_icmp_ne (tgt := 664) hx hb dL_refusesAny_567 (by decide) (fun c_109 => ?_) (fun c_109 => ?_)
                                                                                                      · skip
                                                                                                        exact absurd (by decide) c_109
                                                                                                      · skip
                                                                                                        refine lv_aload_n hx hb dL_refusesAny_570 rfl (lv_at hl 5 rfl) ?_
                                                                                                        refine lv_iload_n hx hb dL_refusesAny_571 rfl (lv_at hl 4 rfl) ?_
                                                                                                        refine h_op (st := []) C hS hP hD hl.1 (k_untilDry_out pu hpub) gL_refusesAny_X4_untilDry rfl hd_untilDry ⟨Nat.le_of_ble_eq_true rfl, Nat.le_of_ble_eq_true rfl⟩ rfl rfl (Nat.le_of_ble_eq_true rfl) dL_refusesAny_572 ⟨Nat.le_of_ble_eq_true rfl, Nat.le_of_ble_eq_true rfl⟩ (fun H locs hP hD hS => ?_)
                                                                                                        refine lv_iconst (v := (-1)) hx hb dL_refusesAny_575 (by decide) ?_
                                                                                                        refine lv_icmp_ne (tgt := 664) hx hb dL_refusesAny_576 (by decide) (fun c_110 => ?_) (fun c_110 => ?_)
                                                                                                        · skip
                                                                                                          exact absurd (by decide) c_110
                                                                                                        · skip
                                                                                                          refine lv_aload_n hx hb dL_refusesAny_579 rfl (lv_at hl 5 rfl) ?_
                                                                                                          refine lv_iload_n hx hb dL_refusesAny_580 rfl (lv_at hl 3 rfl) ?_
                                                                                                          refine h_op (st := []) C hS hP hD hl.1 (k_leastShoes_out wk hwkb) gL_refusesAny_X4_leastShoes rfl hd_leastShoes ⟨Nat.le_of_ble_eq_true rfl, Nat.le_of_ble_eq_true rfl⟩ rfl rfl (Nat.le_of_ble_eq_true rfl) dL_refusesAny_581 ⟨Nat.le_of_ble_eq_true rfl, Nat.le_of_ble_eq_true rfl⟩ (fun H locs hP hD hS => ?_)
                                                                                                          refine lv_iconst (v := (-1)) hx hb dL_refusesAny_584 (by decide) ?_
                                                                                                          refine lv_icmp_ne (tgt := 664) hx hb dL_refusesAny_585 (by decide) (fun c_111 => ?_) (fun c_111 => ?_)
                                                                                                          · skip
                                                                                                            exact absurd (by decide) c_111
                                                                                                          · skip
                                                                                                            refine lv_aload_n hx hb dL_refusesAny_588 rfl (lv_at hl 5 rfl) ?_
                                                                                                            refine lv_iload_n hx hb dL_refusesAny_589 rfl (lv_at hl 3 rfl) ?_
                                                                                                            refine lv_bipush (v := nI 9) hx hb dL_refusesAny_590 (by decide) ?_
                                                                                                            refine h_op (st := []) C hS hP hD hl.1 (k_longestWalk_out wk (nI 9) hwkb) gL_refusesAny_X4_longestWalk rfl hd_longestWalk ⟨Nat.le_of_ble_eq_true rfl, Nat.le_of_ble_eq_true rfl⟩ rfl rfl (Nat.le_of_ble_eq_true rfl) dL_refusesAny_592 ⟨Nat.le_of_ble_eq_true rfl, Nat.le_of_ble_eq_true rfl⟩ (fun H locs hP hD hS => ?_)
                                                                                                            refine lv_iconst (v := (-1)) hx hb dL_refusesAny_595 (by decide) ?_
                                                                                                            refine lv_icmp_ne (tgt := 664) hx hb dL_refusesAny_596 (by decide) (fun c_112 => ?_) (fun c_112 => ?_)
                                                                                                            · skip
                                                                                                              exact absurd (by decide) c_112
                                                                                                            · skip
                                                                                                              refine lv_aload_n hx hb dL_refusesAny_599 rfl (lv_at hl 5 rfl) ?_
                                                                                                              refine lv_iconst (v := nI 0) hx hb dL_refusesAny_600 (by decide) ?_
                                                                                                              refine lv_iload_n hx hb dL_refusesAny_601 rfl (lv_at hl 6 rfl) ?_
                                                                                                              refine lv_iconst (v := nI 2) hx hb dL_refusesAny_602 (by decide) ?_
                                                                                                              refine lv_irem hx hb dL_refusesAny_603 (by decide) ?_
                                                                                                              refine lv_eqi (pk_rem (by omega) (by omega) (by omega)) ?_
                                                                                                              refine lv_if_ne (tgt := 611) hx hb dL_refusesAny_604 (by decide) (fun c_113 => ?_) (fun c_113 => ?_)
                                                                                                              · skip
                                                                                                                exact absurd ((nI_eq (a := (X % 2)) (b := 0) (by omega) (by omega)).mpr (by omega)) c_113
                                                                                                              · skip
                                                                                                                refine lv_iconst (v := (-1)) hx hb dL_refusesAny_607 (by decide) ?_
                                                                                                                refine lv_goto (tgt := 612) hx hb dL_refusesAny_608 (by decide) ?_
                                                                                                                refine h_op (st := []) C hS hP hD hl.1 (k_longestWalk_bad (w := 0) (by omega) (-1) (by decide) (by decide)) gL_refusesAny_X4_longestWalk rfl hd_longestWalk ⟨Nat.le_of_ble_eq_true rfl, Nat.le_of_ble_eq_true rfl⟩ rfl rfl (Nat.le_of_ble_eq_true rfl) dL_refusesAny_612 ⟨Nat.le_of_ble_eq_true rfl, Nat.le_of_ble_eq_true rfl⟩ (fun H locs hP hD hS => ?_)
                                                                                                                refine lv_bipush (v := (-2)) hx hb dL_refusesAny_615 (by decide) ?_
                                                                                                                refine lv_icmp_ne (tgt := 664) hx hb dL_refusesAny_617 (by decide) (fun c_114 => ?_) (fun c_114 => ?_)
                                                                                                                · skip
                                                                                                                  exact absurd (by decide) c_114
                                                                                                                · skip
                                                                                                                  refine lv_aload_n hx hb dL_refusesAny_620 rfl (lv_at hl 5 rfl) ?_
                                                                                                                  refine lv_iload_n hx hb dL_refusesAny_621 rfl (lv_at hl 6 rfl) ?_
                                                                                                                  refine lv_iconst (v := nI 2) hx hb dL_refusesAny_622 (by decide) ?_
                                                                                                                  refine lv_irem hx hb dL_refusesAny_623 (by decide) ?_
                                                                                                                  refine lv_eqi (pk_rem (by omega) (by omega) (by omega)) ?_
                                                                                                                  refine lv_if_ne (tgt := 631) hx hb dL_refusesAny_624 (by decide) (fun c_115 => ?_) (fun c_115 => ?_)
                                                                                                                  · skip
                                                                                                                    exact absurd ((nI_eq (a := (X % 2)) (b := 0) (by omega) (by omega)).mpr (by omega)) c_115
                                                                                                                  · skip
                                                                                                                    refine lv_iconst (v := (-1)) hx hb dL_refusesAny_627 (by decide) ?_
                                                                                                                    refine lv_goto (tgt := 632) hx hb dL_refusesAny_628 (by decide) ?_
                                                                                                                    refine h_op (st := []) C hS hP hD hl.1 (k_save_out (-1) (by decide)) gL_refusesAny_X4_save rfl hd_save ⟨Nat.le_of_ble_eq_true rfl, Nat.le_of_ble_eq_true rfl⟩ rfl rfl (Nat.le_of_ble_eq_true rfl) dL_refusesAny_632 ⟨Nat.le_of_ble_eq_true rfl, Nat.le_of_ble_eq_true rfl⟩ (fun H locs hP hD hS => ?_)
                                                                                                                    refine lv_bipush (v := (-2)) hx hb dL_refusesAny_635 (by decide) ?_
                                                                                                                    refine lv_icmp_ne (tgt := 664) hx hb dL_refusesAny_637 (by decide) (fun c_116 => ?_) (fun c_116 => ?_)
                                                                                                                    · skip
                                                                                                                      exact absurd (by decide) c_116
                                                                                                                    · skip
                                                                                                                      refine lv_aload_n hx hb dL_refusesAny_640 rfl (lv_at hl 5 rfl) ?_
                                                                                                                      refine lv_iload_n hx hb dL_refusesAny_641 rfl (lv_at hl 6 rfl) ?_
                                                                                                                      refine lv_iconst (v := nI 2) hx hb dL_refusesAny_642 (by decide) ?_
                                                                                                                      refine lv_irem hx hb dL_refusesAny_643 (by decide) ?_
                                                                                                                      refine lv_eqi (pk_rem (by omega) (by omega) (by omega)) ?_
                                                                                                                      refine lv_if_ne (tgt := 651) hx hb dL_refusesAny_644 (by decide) (fun c_117 => ?_) (fun c_117 => ?_)
                                                                                                                      · skip
                                                                                                                        exact absurd ((nI_eq (a := (X % 2)) (b := 0) (by omega) (by omega)).mpr (by omega)) c_117
                                                                                                                      · skip
                                                                                                                        refine lv_iconst (v := (-1)) hx hb dL_refusesAny_647 (by decide) ?_
                                                                                                                        refine lv_goto (tgt := 652) hx hb dL_refusesAny_648 (by decide) ?_
                                                                                                                        refine h_op (st := []) C hS hP hD hl.1 (k_restore_out (-1) (by decide)) gL_refusesAny_X4_restore rfl hd_restore ⟨Nat.le_of_ble_eq_true rfl, Nat.le_of_ble_eq_true rfl⟩ rfl rfl (Nat.le_of_ble_eq_true rfl) dL_refusesAny_652 ⟨Nat.le_of_ble_eq_true rfl, Nat.le_of_ble_eq_true rfl⟩ (fun H locs hP hD hS => ?_)
                                                                                                                        refine lv_bipush (v := (-2)) hx hb dL_refusesAny_655 (by decide) ?_
                                                                                                                        refine lv_icmp_ne (tgt := 664) hx hb dL_refusesAny_657 (by decide) (fun c_118 => ?_) (fun c_118 => ?_)
                                                                                                                        · skip
                                                                                                                          exact absurd (by decide) c_118
                                                                                                                        · skip
                                                                                                                          refine lv_iconst (v := nI 1) hx hb dL_refusesAny_660 (by decide) ?_
                                                                                                                          refine lv_goto (tgt := 665) hx hb dL_refusesAny_661 (by decide) ?_
                                                                                                                          refine lv_istore (lv' := [(6, .int (nI 1)), (5, .int (nI 1)), (4, .int (nI (X % 12))), (3, .int wk), (2, .int pu), (0, .ref B.1.1), (1, .int (nI X))]) hx hb dL_refusesAny_665 hl (by decide) rfl (fun ls hl => ?_)
                                                                                                                          refine lv_iload hx hb dL_refusesAny_667 (lv_at hl 0 rfl) ?_
                                                                                                                          refine lv_if_eq (tgt := 699) hx hb dL_refusesAny_669 (by decide) (fun c_119 => ?_) (fun c_119 => ?_)
                                                                                                                          · skip
                                                                                                                            exact absurd c_119 (by decide)
                                                                                                                          · skip
                                                                                                                            refine lv_aload_n hx hb dL_refusesAny_672 rfl (lv_at hl 5 rfl) ?_
                                                                                                                            refine h_op (st := []) C hS hP hD hl.1 (k_wipe h0) gL_refusesAny_X4_wipe rfl hd_wipe ⟨Nat.le_of_ble_eq_true rfl, Nat.le_of_ble_eq_true rfl⟩ rfl rfl (Nat.le_of_ble_eq_true rfl) dL_refusesAny_673 ⟨Nat.le_of_ble_eq_true rfl, Nat.le_of_ble_eq_true rfl⟩ (fun H locs hP hD hS => ?_)
                                                                                                                            refine lv_if_ne (tgt := 699) hx hb dL_refusesAny_676 (by decide) (fun c_120 => ?_) (fun c_120 => ?_)
                                                                                                                            · skip
                                                                                                                              exact absurd (by decide) c_120
                                                                                                                            · skip
                                                                                                                              refine lv_aload_n hx hb dL_refusesAny_679 rfl (lv_at hl 5 rfl) ?_
                                                                                                                              refine h_op (st := []) C hS hP hD hl.1 (k_read h0) gL_refusesAny_X4_read rfl hd_read ⟨Nat.le_of_ble_eq_true rfl, Nat.le_of_ble_eq_true rfl⟩ rfl rfl (Nat.le_of_ble_eq_true rfl) dL_refusesAny_680 ⟨Nat.le_of_ble_eq_true rfl, Nat.le_of_ble_eq_true rfl⟩ (fun H locs hP hD hS => ?_)
                                                                                                                              refine lv_bipush (v := (-3)) hx hb dL_refusesAny_683 (by decide) ?_
                                                                                                                              refine lv_icmp_ne (tgt := 699) hx hb dL_refusesAny_685 (by decide) (fun c_121 => ?_) (fun c_121 => ?_)
                                                                                                                              · skip
                                                                                                                                exact absurd (by decide) c_121
                                                                                                                              · skip
                                                                                                                                refine lv_aload_n hx hb dL_refusesAny_688 rfl (lv_at hl 5 rfl) ?_
                                                                                                                                refine h_op (st := []) C hS hP hD hl.1 (k_fault h0) gL_refusesAny_X4_fault rfl hd_fault ⟨Nat.le_of_ble_eq_true rfl, Nat.le_of_ble_eq_true rfl⟩ rfl rfl (Nat.le_of_ble_eq_true rfl) dL_refusesAny_689 ⟨Nat.le_of_ble_eq_true rfl, Nat.le_of_ble_eq_true rfl⟩ (fun H locs hP hD hS => ?_)
                                                                                                                                refine lv_if_ne (tgt := 699) hx hb dL_refusesAny_692 (by decide) (fun c_122 => ?_) (fun c_122 => ?_)
                                                                                                                                · skip
                                                                                                                                  exact absurd (by decide) c_122
                                                                                                                                · skip
                                                                                                                                  refine lv_iconst (v := nI 1) hx hb dL_refusesAny_695 (by decide) ?_
                                                                                                                                  refine lv_goto (tgt := 700) hx hb dL_refusesAny_696 (by decide) ?_
                                                                                                                                  exact hret _ _ _ _ hP hS dL_refusesAny_700
  · skip
    by_cases hd : bt1 (s_dk v.1) (X % 12) = 0
    · skip
      refine lv_iload_n hx hb dL_refusesAny_0 rfl (lv_at hl 1 rfl) ?_
      refine lv_iconst (v := nI 2) hx hb dL_refusesAny_1 (by decide) ?_
      refine lv_irem hx hb dL_refusesAny_2 (by decide) ?_
      refine lv_eqi (pk_rem (by omega) (by omega) (by omega)) ?_
      refine lv_if_ne (tgt := 15) hx hb dL_refusesAny_3 (by decide) (fun c_123 => ?_) (fun c_123 => ?_)
      · skip
        refine lv_bipush (v := nI 12) hx hb dL_refusesAny_15 (by decide) ?_
        refine lv_iload_n hx hb dL_refusesAny_17 rfl (lv_at hl 1 rfl) ?_
        refine lv_bipush (v := nI 99) hx hb dL_refusesAny_18 (by decide) ?_
        refine lv_irem hx hb dL_refusesAny_20 (by decide) ?_
        refine lv_eqi (pk_rem (by omega) (by omega) (by omega)) ?_
        refine lv_iadd hx hb dL_refusesAny_21 ?_
        refine lv_eqi (nI_add _ _) ?_
        obtain ⟨pu, hpu⟩ : ∃ x : Int32, x = nI (12 + (X % 99)) := ⟨_, rfl⟩
        refine lv_eqi hpu.symm ?_
        have hpub : pu < 0 ∨ nI 12 ≤ pu := Or.inr (by rw [hpu]; exact nI_le (by omega) (by omega))
        refine lv_istore_n (lv' := [(2, .int pu), (0, .ref B.1.1), (1, .int (nI X))]) hx hb dL_refusesAny_22 rfl hl (by decide) rfl (fun ls hl => ?_)
        refine lv_iload_n hx hb dL_refusesAny_23 rfl (lv_at hl 2 rfl) ?_
        refine lv_iconst (v := nI 2) hx hb dL_refusesAny_24 (by decide) ?_
        refine lv_irem hx hb dL_refusesAny_25 (by decide) ?_
        refine lv_eqi (pk_rem (by omega) (by omega) (by omega)) ?_
        refine lv_if_ne (tgt := 38) hx hb dL_refusesAny_26 (by decide) (fun c_124 => ?_) (fun c_124 => ?_)
        · skip
          refine lv_bipush (v := nI 6) hx hb dL_refusesAny_38 (by decide) ?_
          refine lv_iload_n hx hb dL_refusesAny_40 rfl (lv_at hl 2 rfl) ?_
          refine lv_bipush (v := nI 99) hx hb dL_refusesAny_41 (by decide) ?_
          refine lv_irem hx hb dL_refusesAny_43 (by decide) ?_
          refine lv_eqi (pk_rem (by omega) (by omega) (by omega)) ?_
          refine lv_iadd hx hb dL_refusesAny_44 ?_
          refine lv_eqi (nI_add _ _) ?_
          obtain ⟨wk, hwk⟩ : ∃ x : Int32, x = nI (6 + (X % 99)) := ⟨_, rfl⟩
          refine lv_eqi hwk.symm ?_
          have hwkb : wk < 0 ∨ nI 6 ≤ wk := Or.inr (by rw [hwk]; exact nI_le (by omega) (by omega))
          refine lv_istore_n (lv' := [(3, .int wk), (2, .int pu), (0, .ref B.1.1), (1, .int (nI X))]) hx hb dL_refusesAny_45 rfl hl (by decide) rfl (fun ls hl => ?_)
          refine lv_iload_n hx hb dL_refusesAny_46 rfl (lv_at hl 3 rfl) ?_
          refine lv_bipush (v := nI 12) hx hb dL_refusesAny_47 (by decide) ?_
          refine lv_irem hx hb dL_refusesAny_49 (by decide) ?_
          refine lv_eqi (pk_rem (by omega) (by omega) (by omega)) ?_
          refine lv_istore (lv' := [(4, .int (nI (X % 12))), (3, .int wk), (2, .int pu), (0, .ref B.1.1), (1, .int (nI X))]) hx hb dL_refusesAny_50 hl (by decide) rfl (fun ls hl => ?_)
          refine lv_aload_n hx hb dL_refusesAny_52 rfl (lv_at hl 3 rfl) ?_
          refine lv_bipush (v := nI 10) hx hb dL_refusesAny_53 (by decide) ?_
          refine h_op (st := []) C hS hP hD hl.1 (k_count h0 (q := 10) (by decide)) gL_refusesAny_X4_count rfl hd_count ⟨Nat.le_of_ble_eq_true rfl, Nat.le_of_ble_eq_true rfl⟩ rfl rfl (Nat.le_of_ble_eq_true rfl) dL_refusesAny_55 ⟨Nat.le_of_ble_eq_true rfl, Nat.le_of_ble_eq_true rfl⟩ (fun H locs hP hD hS => ?_)
          refine lv_eqi (y := s_dk v.1) (rfl) ?_
          refine lv_iload hx hb dL_refusesAny_58 (lv_at hl 0 rfl) ?_
          refine lv_ishr hx hb dL_refusesAny_60 ?_
          refine lv_iconst (v := nI 1) hx hb dL_refusesAny_61 (by decide) ?_
          refine lv_iand hx hb dL_refusesAny_62 ?_
          refine lv_iconst (v := nI 1) hx hb dL_refusesAny_63 (by decide) ?_
          refine lv_icmp_ne (tgt := 71) hx hb dL_refusesAny_64 (by decide) (fun c_125 => ?_) (fun c_125 => ?_)
          · skip
            refine lv_iconst (v := nI 0) hx hb dL_refusesAny_71 (by decide) ?_
            refine lv_istore (lv' := [(5, .int (nI 0)), (4, .int (nI (X % 12))), (3, .int wk), (2, .int pu), (0, .ref B.1.1), (1, .int (nI X))]) hx hb dL_refusesAny_72 hl (by decide) rfl (fun ls hl => ?_)
            refine lv_aload_n hx hb dL_refusesAny_74 rfl (lv_at hl 4 rfl) ?_
            refine lv_iload_n hx hb dL_refusesAny_75 rfl (lv_at hl 5 rfl) ?_
            refine lv_iconst (v := nI 2) hx hb dL_refusesAny_76 (by decide) ?_
            refine lv_irem hx hb dL_refusesAny_77 (by decide) ?_
            refine lv_eqi (pk_rem (by omega) (by omega) (by omega)) ?_
            refine lv_if_ne (tgt := 85) hx hb dL_refusesAny_78 (by decide) (fun c_126 => ?_) (fun c_126 => ?_)
            · skip
              refine lv_iconst (v := nI 4) hx hb dL_refusesAny_85 (by decide) ?_
              refine lv_iconst (v := nI 5) hx hb dL_refusesAny_86 (by decide) ?_
              refine h_op (st := []) C hS hP hD hl.1 (k_set_out (nI 4) (nI 5) (by decide)) gL_refusesAny_X4_set rfl hd_set ⟨Nat.le_of_ble_eq_true rfl, Nat.le_of_ble_eq_true rfl⟩ rfl rfl (Nat.le_of_ble_eq_true rfl) dL_refusesAny_87 ⟨Nat.le_of_ble_eq_true rfl, Nat.le_of_ble_eq_true rfl⟩ (fun H locs hP hD hS => ?_)
              refine lv_bipush (v := (-2)) hx hb dL_refusesAny_90 (by decide) ?_
              refine lv_icmp_ne (tgt := 372) hx hb dL_refusesAny_92 (by decide) (fun c_127 => ?_) (fun c_127 => ?_)
              · skip
                exact absurd (by decide) c_127
              · skip
                refine lv_aload_n hx hb dL_refusesAny_95 rfl (lv_at hl 4 rfl) ?_
                refine lv_iconst (v := nI 0) hx hb dL_refusesAny_96 (by decide) ?_
                refine lv_iload_n hx hb dL_refusesAny_97 rfl (lv_at hl 5 rfl) ?_
                refine lv_iconst (v := nI 2) hx hb dL_refusesAny_98 (by decide) ?_
                refine lv_irem hx hb dL_refusesAny_99 (by decide) ?_
                refine lv_eqi (pk_rem (by omega) (by omega) (by omega)) ?_
                refine lv_if_ne (tgt := 107) hx hb dL_refusesAny_100 (by decide) (fun c_128 => ?_) (fun c_128 => ?_)
                · skip
                  refine lv_bipush (v := nI 21) hx hb dL_refusesAny_107 (by decide) ?_
                  refine h_op (st := []) C hS hP hD hl.1 (k_set_bad (k := 0) (by decide) (nI 21) (by decide)) gL_refusesAny_X4_set rfl hd_set ⟨Nat.le_of_ble_eq_true rfl, Nat.le_of_ble_eq_true rfl⟩ rfl rfl (Nat.le_of_ble_eq_true rfl) dL_refusesAny_109 ⟨Nat.le_of_ble_eq_true rfl, Nat.le_of_ble_eq_true rfl⟩ (fun H locs hP hD hS => ?_)
                  refine lv_bipush (v := (-2)) hx hb dL_refusesAny_112 (by decide) ?_
                  refine lv_icmp_ne (tgt := 372) hx hb dL_refusesAny_114 (by decide) (fun c_129 => ?_) (fun c_129 => ?_)
                  · skip
                    exact absurd (by decide) c_129
                  · skip
                    refine lv_aload_n hx hb dL_refusesAny_117 rfl (lv_at hl 4 rfl) ?_
                    refine lv_iconst (v := nI 1) hx hb dL_refusesAny_118 (by decide) ?_
                    refine lv_iload_n hx hb dL_refusesAny_119 rfl (lv_at hl 5 rfl) ?_
                    refine lv_iconst (v := nI 2) hx hb dL_refusesAny_120 (by decide) ?_
                    refine lv_irem hx hb dL_refusesAny_121 (by decide) ?_
                    refine lv_eqi (pk_rem (by omega) (by omega) (by omega)) ?_
                    refine lv_if_ne (tgt := 129) hx hb dL_refusesAny_122 (by decide) (fun c_130 => ?_) (fun c_130 => ?_)
                    · skip
                      refine lv_bipush (v := nI 21) hx hb dL_refusesAny_129 (by decide) ?_
                      refine h_op (st := []) C hS hP hD hl.1 (k_set_bad (k := 1) (by decide) (nI 21) (by decide)) gL_refusesAny_X4_set rfl hd_set ⟨Nat.le_of_ble_eq_true rfl, Nat.le_of_ble_eq_true rfl⟩ rfl rfl (Nat.le_of_ble_eq_true rfl) dL_refusesAny_131 ⟨Nat.le_of_ble_eq_true rfl, Nat.le_of_ble_eq_true rfl⟩ (fun H locs hP hD hS => ?_)
                      refine lv_bipush (v := (-2)) hx hb dL_refusesAny_134 (by decide) ?_
                      refine lv_icmp_ne (tgt := 372) hx hb dL_refusesAny_136 (by decide) (fun c_131 => ?_) (fun c_131 => ?_)
                      · skip
                        exact absurd (by decide) c_131
                      · skip
                        refine lv_aload_n hx hb dL_refusesAny_139 rfl (lv_at hl 4 rfl) ?_
                        refine lv_iconst (v := nI 2) hx hb dL_refusesAny_140 (by decide) ?_
                        refine lv_iload_n hx hb dL_refusesAny_141 rfl (lv_at hl 5 rfl) ?_
                        refine lv_iconst (v := nI 2) hx hb dL_refusesAny_142 (by decide) ?_
                        refine lv_irem hx hb dL_refusesAny_143 (by decide) ?_
                        refine lv_eqi (pk_rem (by omega) (by omega) (by omega)) ?_
                        refine lv_if_ne (tgt := 151) hx hb dL_refusesAny_144 (by decide) (fun c_132 => ?_) (fun c_132 => ?_)
                        · skip
                          refine lv_bipush (v := nI 100) hx hb dL_refusesAny_151 (by decide) ?_
                          refine h_op (st := []) C hS hP hD hl.1 (k_set_bad (k := 2) (by decide) (nI 100) (by decide)) gL_refusesAny_X4_set rfl hd_set ⟨Nat.le_of_ble_eq_true rfl, Nat.le_of_ble_eq_true rfl⟩ rfl rfl (Nat.le_of_ble_eq_true rfl) dL_refusesAny_153 ⟨Nat.le_of_ble_eq_true rfl, Nat.le_of_ble_eq_true rfl⟩ (fun H locs hP hD hS => ?_)
                          refine lv_bipush (v := (-2)) hx hb dL_refusesAny_156 (by decide) ?_
                          refine lv_icmp_ne (tgt := 372) hx hb dL_refusesAny_158 (by decide) (fun c_133 => ?_) (fun c_133 => ?_)
                          · skip
                            exact absurd (by decide) c_133
                          · skip
                            refine lv_aload_n hx hb dL_refusesAny_161 rfl (lv_at hl 4 rfl) ?_
                            refine lv_iconst (v := nI 3) hx hb dL_refusesAny_162 (by decide) ?_
                            refine lv_iload_n hx hb dL_refusesAny_163 rfl (lv_at hl 5 rfl) ?_
                            refine lv_iconst (v := nI 2) hx hb dL_refusesAny_164 (by decide) ?_
                            refine lv_irem hx hb dL_refusesAny_165 (by decide) ?_
                            refine lv_eqi (pk_rem (by omega) (by omega) (by omega)) ?_
                            refine lv_if_ne (tgt := 173) hx hb dL_refusesAny_166 (by decide) (fun c_134 => ?_) (fun c_134 => ?_)
                            · skip
                              refine lv_bipush (v := nI 31) hx hb dL_refusesAny_173 (by decide) ?_
                              refine h_op (st := []) C hS hP hD hl.1 (k_set_bad (k := 3) (by decide) (nI 31) (by decide)) gL_refusesAny_X4_set rfl hd_set ⟨Nat.le_of_ble_eq_true rfl, Nat.le_of_ble_eq_true rfl⟩ rfl rfl (Nat.le_of_ble_eq_true rfl) dL_refusesAny_175 ⟨Nat.le_of_ble_eq_true rfl, Nat.le_of_ble_eq_true rfl⟩ (fun H locs hP hD hS => ?_)
                              refine lv_bipush (v := (-2)) hx hb dL_refusesAny_178 (by decide) ?_
                              refine lv_icmp_ne (tgt := 372) hx hb dL_refusesAny_180 (by decide) (fun c_135 => ?_) (fun c_135 => ?_)
                              · skip
                                exact absurd (by decide) c_135
                              · skip
                                refine lv_aload_n hx hb dL_refusesAny_183 rfl (lv_at hl 4 rfl) ?_
                                refine lv_iload_n hx hb dL_refusesAny_184 rfl (lv_at hl 3 rfl) ?_
                                refine lv_iconst (v := nI 0) hx hb dL_refusesAny_185 (by decide) ?_
                                refine h_op (st := []) C hS hP hD hl.1 (k_brim_out pu (nI 0) hpub) gL_refusesAny_X4_brim rfl hd_brim ⟨Nat.le_of_ble_eq_true rfl, Nat.le_of_ble_eq_true rfl⟩ rfl rfl (Nat.le_of_ble_eq_true rfl) dL_refusesAny_186 ⟨Nat.le_of_ble_eq_true rfl, Nat.le_of_ble_eq_true rfl⟩ (fun H locs hP hD hS => ?_)
                                refine lv_iconst (v := (-1)) hx hb dL_refusesAny_189 (by decide) ?_
                                refine lv_icmp_ne (tgt := 372) hx hb dL_refusesAny_190 (by decide) (fun c_136 => ?_) (fun c_136 => ?_)
                                · skip
                                  exact absurd (by decide) c_136
                                · skip
                                  refine lv_aload_n hx hb dL_refusesAny_193 rfl (lv_at hl 4 rfl) ?_
                                  refine lv_iload hx hb dL_refusesAny_194 (lv_at hl 1 rfl) ?_
                                  refine lv_iload_n hx hb dL_refusesAny_196 rfl (lv_at hl 5 rfl) ?_
                                  refine lv_iconst (v := nI 2) hx hb dL_refusesAny_197 (by decide) ?_
                                  refine lv_irem hx hb dL_refusesAny_198 (by decide) ?_
                                  refine lv_eqi (pk_rem (by omega) (by omega) (by omega)) ?_
                                  refine lv_if_ne (tgt := 206) hx hb dL_refusesAny_199 (by decide) (fun c_137 => ?_) (fun c_137 => ?_)
                                  · skip
                                    refine lv_bipush (v := nI 61) hx hb dL_refusesAny_206 (by decide) ?_
                                    refine h_op (st := []) C hS hP hD hl.1 (k_brim_bad (p := X % 12) (by omega) (nI 61) (by decide)) gL_refusesAny_X4_brim rfl hd_brim ⟨Nat.le_of_ble_eq_true rfl, Nat.le_of_ble_eq_true rfl⟩ rfl rfl (Nat.le_of_ble_eq_true rfl) dL_refusesAny_208 ⟨Nat.le_of_ble_eq_true rfl, Nat.le_of_ble_eq_true rfl⟩ (fun H locs hP hD hS => ?_)
                                    refine lv_bipush (v := (-2)) hx hb dL_refusesAny_211 (by decide) ?_
                                    refine lv_icmp_ne (tgt := 372) hx hb dL_refusesAny_213 (by decide) (fun c_138 => ?_) (fun c_138 => ?_)
                                    · skip
                                      exact absurd (by decide) c_138
                                    · skip
                                      refine lv_aload_n hx hb dL_refusesAny_216 rfl (lv_at hl 4 rfl) ?_
                                      refine lv_iload_n hx hb dL_refusesAny_217 rfl (lv_at hl 3 rfl) ?_
                                      refine h_op (st := []) C hS hP hD hl.1 (k_drain_out pu hpub) gL_refusesAny_X4_drain rfl hd_drain ⟨Nat.le_of_ble_eq_true rfl, Nat.le_of_ble_eq_true rfl⟩ rfl rfl (Nat.le_of_ble_eq_true rfl) dL_refusesAny_218 ⟨Nat.le_of_ble_eq_true rfl, Nat.le_of_ble_eq_true rfl⟩ (fun H locs hP hD hS => ?_)
                                      refine lv_iconst (v := (-1)) hx hb dL_refusesAny_221 (by decide) ?_
                                      refine lv_icmp_ne (tgt := 372) hx hb dL_refusesAny_222 (by decide) (fun c_139 => ?_) (fun c_139 => ?_)
                                      · skip
                                        exact absurd (by decide) c_139
                                      · skip
                                        refine lv_iload hx hb dL_refusesAny_225 (lv_at hl 0 rfl) ?_
                                        refine lv_if_eq (tgt := 253) hx hb dL_refusesAny_227 (by decide) (fun c_140 => ?_) (fun c_140 => ?_)
                                        · skip
                                          refine lv_aload_n hx hb dL_refusesAny_253 rfl (lv_at hl 4 rfl) ?_
                                          refine lv_iload_n hx hb dL_refusesAny_254 rfl (lv_at hl 2 rfl) ?_
                                          refine lv_bipush (v := nI 9) hx hb dL_refusesAny_255 (by decide) ?_
                                          refine h_op (st := []) C hS hP hD hl.1 (k_shoes_out wk (nI 9) hwkb) gL_refusesAny_X4_shoes rfl hd_shoes ⟨Nat.le_of_ble_eq_true rfl, Nat.le_of_ble_eq_true rfl⟩ rfl rfl (Nat.le_of_ble_eq_true rfl) dL_refusesAny_257 ⟨Nat.le_of_ble_eq_true rfl, Nat.le_of_ble_eq_true rfl⟩ (fun H locs hP hD hS => ?_)
                                          refine lv_iconst (v := (-1)) hx hb dL_refusesAny_260 (by decide) ?_
                                          refine lv_icmp_ne (tgt := 372) hx hb dL_refusesAny_261 (by decide) (fun c_141 => ?_) (fun c_141 => ?_)
                                          · skip
                                            exact absurd (by decide) c_141
                                          · skip
                                            refine lv_aload_n hx hb dL_refusesAny_264 rfl (lv_at hl 4 rfl) ?_
                                            refine lv_iconst (v := nI 0) hx hb dL_refusesAny_265 (by decide) ?_
                                            refine lv_iload_n hx hb dL_refusesAny_266 rfl (lv_at hl 5 rfl) ?_
                                            refine lv_iconst (v := nI 2) hx hb dL_refusesAny_267 (by decide) ?_
                                            refine lv_irem hx hb dL_refusesAny_268 (by decide) ?_
                                            refine lv_eqi (pk_rem (by omega) (by omega) (by omega)) ?_
                                            refine lv_if_ne (tgt := 276) hx hb dL_refusesAny_269 (by decide) (fun c_142 => ?_) (fun c_142 => ?_)
                                            · skip
                                              refine lv_iconst (v := nI 4) hx hb dL_refusesAny_276 (by decide) ?_
                                              refine h_op (st := []) C hS hP hD hl.1 (k_shoes_bad (w := 0) (by omega) (nI 4) (by decide)) gL_refusesAny_X4_shoes rfl hd_shoes ⟨Nat.le_of_ble_eq_true rfl, Nat.le_of_ble_eq_true rfl⟩ rfl rfl (Nat.le_of_ble_eq_true rfl) dL_refusesAny_277 ⟨Nat.le_of_ble_eq_true rfl, Nat.le_of_ble_eq_true rfl⟩ (fun H locs hP hD hS => ?_)
                                              refine lv_bipush (v := (-2)) hx hb dL_refusesAny_280 (by decide) ?_
                                              refine lv_icmp_ne (tgt := 372) hx hb dL_refusesAny_282 (by decide) (fun c_143 => ?_) (fun c_143 => ?_)
                                              · skip
                                                exact absurd (by decide) c_143
                                              · skip
                                                refine lv_aload_n hx hb dL_refusesAny_285 rfl (lv_at hl 4 rfl) ?_
                                                refine lv_iload_n hx hb dL_refusesAny_286 rfl (lv_at hl 2 rfl) ?_
                                                refine lv_iconst (v := nI 0) hx hb dL_refusesAny_287 (by decide) ?_
                                                refine h_op (st := []) C hS hP hD hl.1 (k_permit_outw wk (nI 0) hwkb) gL_refusesAny_X4_permit rfl hd_permit ⟨Nat.le_of_ble_eq_true rfl, Nat.le_of_ble_eq_true rfl⟩ rfl rfl (Nat.le_of_ble_eq_true rfl) dL_refusesAny_288 ⟨Nat.le_of_ble_eq_true rfl, Nat.le_of_ble_eq_true rfl⟩ (fun H locs hP hD hS => ?_)
                                                refine lv_iconst (v := (-1)) hx hb dL_refusesAny_291 (by decide) ?_
                                                refine lv_icmp_ne (tgt := 372) hx hb dL_refusesAny_292 (by decide) (fun c_144 => ?_) (fun c_144 => ?_)
                                                · skip
                                                  exact absurd (by decide) c_144
                                                · skip
                                                  refine lv_aload_n hx hb dL_refusesAny_295 rfl (lv_at hl 4 rfl) ?_
                                                  refine lv_iconst (v := nI 0) hx hb dL_refusesAny_296 (by decide) ?_
                                                  refine lv_iload_n hx hb dL_refusesAny_297 rfl (lv_at hl 3 rfl) ?_
                                                  refine h_op (st := []) C hS hP hD hl.1 (k_permit_outp (w := 0) (by omega) pu hpub) gL_refusesAny_X4_permit rfl hd_permit ⟨Nat.le_of_ble_eq_true rfl, Nat.le_of_ble_eq_true rfl⟩ rfl rfl (Nat.le_of_ble_eq_true rfl) dL_refusesAny_298 ⟨Nat.le_of_ble_eq_true rfl, Nat.le_of_ble_eq_true rfl⟩ (fun H locs hP hD hS => ?_)
                                                  refine lv_iconst (v := (-1)) hx hb dL_refusesAny_301 (by decide) ?_
                                                  refine lv_icmp_ne (tgt := 372) hx hb dL_refusesAny_302 (by decide) (fun c_145 => ?_) (fun c_145 => ?_)
                                                  · skip
                                                    exact absurd (by decide) c_145
                                                  · skip
                                                    refine lv_aload_n hx hb dL_refusesAny_305 rfl (lv_at hl 4 rfl) ?_
                                                    refine lv_iload_n hx hb dL_refusesAny_306 rfl (lv_at hl 2 rfl) ?_
                                                    refine lv_iconst (v := nI 0) hx hb dL_refusesAny_307 (by decide) ?_
                                                    refine lv_iconst (v := nI 0) hx hb dL_refusesAny_308 (by decide) ?_
                                                    refine h_op (st := []) C hS hP hD hl.1 (k_walk_outw wk (nI 0) (nI 0) hwkb) gL_refusesAny_X4_walk rfl hd_walk ⟨Nat.le_of_ble_eq_true rfl, Nat.le_of_ble_eq_true rfl⟩ rfl rfl (Nat.le_of_ble_eq_true rfl) dL_refusesAny_309 ⟨Nat.le_of_ble_eq_true rfl, Nat.le_of_ble_eq_true rfl⟩ (fun H locs hP hD hS => ?_)
                                                    refine lv_iconst (v := (-1)) hx hb dL_refusesAny_312 (by decide) ?_
                                                    refine lv_icmp_ne (tgt := 372) hx hb dL_refusesAny_313 (by decide) (fun c_146 => ?_) (fun c_146 => ?_)
                                                    · skip
                                                      exact absurd (by decide) c_146
                                                    · skip
                                                      refine lv_aload_n hx hb dL_refusesAny_316 rfl (lv_at hl 4 rfl) ?_
                                                      refine lv_iconst (v := nI 0) hx hb dL_refusesAny_317 (by decide) ?_
                                                      refine lv_iload_n hx hb dL_refusesAny_318 rfl (lv_at hl 3 rfl) ?_
                                                      refine lv_iconst (v := nI 0) hx hb dL_refusesAny_319 (by decide) ?_
                                                      refine h_op (st := []) C hS hP hD hl.1 (k_walk_outf (w := 0) (by omega) pu (nI 0) hpub) gL_refusesAny_X4_walk rfl hd_walk ⟨Nat.le_of_ble_eq_true rfl, Nat.le_of_ble_eq_true rfl⟩ rfl rfl (Nat.le_of_ble_eq_true rfl) dL_refusesAny_320 ⟨Nat.le_of_ble_eq_true rfl, Nat.le_of_ble_eq_true rfl⟩ (fun H locs hP hD hS => ?_)
                                                      refine lv_iconst (v := (-1)) hx hb dL_refusesAny_323 (by decide) ?_
                                                      refine lv_icmp_ne (tgt := 372) hx hb dL_refusesAny_324 (by decide) (fun c_147 => ?_) (fun c_147 => ?_)
                                                      · skip
                                                        exact absurd (by decide) c_147
                                                      · skip
                                                        refine lv_aload_n hx hb dL_refusesAny_327 rfl (lv_at hl 4 rfl) ?_
                                                        refine lv_iconst (v := nI 0) hx hb dL_refusesAny_328 (by decide) ?_
                                                        refine lv_iconst (v := nI 0) hx hb dL_refusesAny_329 (by decide) ?_
                                                        refine lv_iload_n hx hb dL_refusesAny_330 rfl (lv_at hl 3 rfl) ?_
                                                        refine h_op (st := []) C hS hP hD hl.1 (k_walk_outt (w := 0) (f := 0) (by omega) (by omega) pu hpub) gL_refusesAny_X4_walk rfl hd_walk ⟨Nat.le_of_ble_eq_true rfl, Nat.le_of_ble_eq_true rfl⟩ rfl rfl (Nat.le_of_ble_eq_true rfl) dL_refusesAny_331 ⟨Nat.le_of_ble_eq_true rfl, Nat.le_of_ble_eq_true rfl⟩ (fun H locs hP hD hS => ?_)
                                                        refine lv_iconst (v := (-1)) hx hb dL_refusesAny_334 (by decide) ?_
                                                        refine lv_icmp_ne (tgt := 372) hx hb dL_refusesAny_335 (by decide) (fun c_148 => ?_) (fun c_148 => ?_)
                                                        · skip
                                                          exact absurd (by decide) c_148
                                                        · skip
                                                          refine lv_aload_n hx hb dL_refusesAny_338 rfl (lv_at hl 4 rfl) ?_
                                                          refine lv_iload_n hx hb dL_refusesAny_339 rfl (lv_at hl 2 rfl) ?_
                                                          refine h_op (st := []) C hS hP hD hl.1 (k_pay_out wk hwkb) gL_refusesAny_X4_pay rfl hd_pay ⟨Nat.le_of_ble_eq_true rfl, Nat.le_of_ble_eq_true rfl⟩ rfl rfl (Nat.le_of_ble_eq_true rfl) dL_refusesAny_340 ⟨Nat.le_of_ble_eq_true rfl, Nat.le_of_ble_eq_true rfl⟩ (fun H locs hP hD hS => ?_)
                                                          refine lv_iconst (v := (-1)) hx hb dL_refusesAny_343 (by decide) ?_
                                                          refine lv_icmp_ne (tgt := 372) hx hb dL_refusesAny_344 (by decide) (fun c_149 => ?_) (fun c_149 => ?_)
                                                          · skip
                                                            exact absurd (by decide) c_149
                                                          · skip
                                                            refine lv_aload_n hx hb dL_refusesAny_347 rfl (lv_at hl 4 rfl) ?_
                                                            refine lv_iload_n hx hb dL_refusesAny_348 rfl (lv_at hl 5 rfl) ?_
                                                            refine lv_iconst (v := nI 2) hx hb dL_refusesAny_349 (by decide) ?_
                                                            refine lv_irem hx hb dL_refusesAny_350 (by decide) ?_
                                                            refine lv_eqi (pk_rem (by omega) (by omega) (by omega)) ?_
                                                            refine lv_if_ne (tgt := 358) hx hb dL_refusesAny_351 (by decide) (fun c_150 => ?_) (fun c_150 => ?_)
                                                            · skip
                                                              refine lv_bipush (v := nI 12) hx hb dL_refusesAny_358 (by decide) ?_
                                                              refine h_op (st := []) C hS hP hD hl.1 (k_pass_out (nI 12) (by decide)) gL_refusesAny_X4_pass rfl hd_pass ⟨Nat.le_of_ble_eq_true rfl, Nat.le_of_ble_eq_true rfl⟩ rfl rfl (Nat.le_of_ble_eq_true rfl) dL_refusesAny_360 ⟨Nat.le_of_ble_eq_true rfl, Nat.le_of_ble_eq_true rfl⟩ (fun H locs hP hD hS => ?_)
                                                              refine lv_bipush (v := (-2)) hx hb dL_refusesAny_363 (by decide) ?_
                                                              refine lv_icmp_ne (tgt := 372) hx hb dL_refusesAny_365 (by decide) (fun c_151 => ?_) (fun c_151 => ?_)
                                                              · skip
                                                                exact absurd (by decide) c_151
                                                              · skip
                                                                refine lv_iconst (v := nI 1) hx hb dL_refusesAny_368 (by decide) ?_
                                                                refine lv_goto (tgt := 373) hx hb dL_refusesAny_369 (by decide) ?_
                                                                refine lv_istore (lv' := [(6, .int (nI 1)), (5, .int (nI 0)), (4, .int (nI (X % 12))), (3, .int wk), (2, .int pu), (0, .ref B.1.1), (1, .int (nI X))]) hx hb dL_refusesAny_373 hl (by decide) rfl (fun ls hl => ?_)
                                                                refine lv_iload hx hb dL_refusesAny_375 (lv_at hl 0 rfl) ?_
                                                                refine lv_if_eq (tgt := 664) hx hb dL_refusesAny_377 (by decide) (fun c_152 => ?_) (fun c_152 => ?_)
                                                                · skip
                                                                  exact absurd c_152 (by decide)
                                                                · skip
                                                                  refine lv_aload_n hx hb dL_refusesAny_380 rfl (lv_at hl 5 rfl) ?_
                                                                  refine lv_iload_n hx hb dL_refusesAny_381 rfl (lv_at hl 4 rfl) ?_
                                                                  refine lv_bipush (v := nI 99) hx hb dL_refusesAny_382 (by decide) ?_
                                                                  refine h_op (st := []) C hS hP hD hl.1 (k_puddle_out pu (nI 99) hpub) gL_refusesAny_X4_puddle rfl hd_puddle ⟨Nat.le_of_ble_eq_true rfl, Nat.le_of_ble_eq_true rfl⟩ rfl rfl (Nat.le_of_ble_eq_true rfl) dL_refusesAny_384 ⟨Nat.le_of_ble_eq_true rfl, Nat.le_of_ble_eq_true rfl⟩ (fun H locs hP hD hS => ?_)
                                                                  refine lv_iconst (v := (-1)) hx hb dL_refusesAny_387 (by decide) ?_
                                                                  refine lv_icmp_ne (tgt := 664) hx hb dL_refusesAny_388 (by decide) (fun c_153 => ?_) (fun c_153 => ?_)
                                                                  · skip
                                                                    exact absurd (by decide) c_153
                                                                  · skip
                                                                    refine lv_aload_n hx hb dL_refusesAny_391 rfl (lv_at hl 5 rfl) ?_
                                                                    refine lv_iload hx hb dL_refusesAny_392 (lv_at hl 2 rfl) ?_
                                                                    refine lv_iload_n hx hb dL_refusesAny_394 rfl (lv_at hl 6 rfl) ?_
                                                                    refine lv_iconst (v := nI 2) hx hb dL_refusesAny_395 (by decide) ?_
                                                                    refine lv_irem hx hb dL_refusesAny_396 (by decide) ?_
                                                                    refine lv_eqi (pk_rem (by omega) (by omega) (by omega)) ?_
                                                                    refine lv_if_ne (tgt := 404) hx hb dL_refusesAny_397 (by decide) (fun c_154 => ?_) (fun c_154 => ?_)
                                                                    · skip
                                                                      refine lv_bipush (v := nI 7) hx hb dL_refusesAny_404 (by decide) ?_
                                                                      refine h_op (st := []) C hS hP hD hl.1 (k_puddle_bad (p := X % 12) (by omega) (nI 7) (by decide)) gL_refusesAny_X4_puddle rfl hd_puddle ⟨Nat.le_of_ble_eq_true rfl, Nat.le_of_ble_eq_true rfl⟩ rfl rfl (Nat.le_of_ble_eq_true rfl) dL_refusesAny_406 ⟨Nat.le_of_ble_eq_true rfl, Nat.le_of_ble_eq_true rfl⟩ (fun H locs hP hD hS => ?_)
                                                                      refine lv_bipush (v := (-2)) hx hb dL_refusesAny_409 (by decide) ?_
                                                                      refine lv_icmp_ne (tgt := 664) hx hb dL_refusesAny_411 (by decide) (fun c_155 => ?_) (fun c_155 => ?_)
                                                                      · skip
                                                                        exact absurd (by decide) c_155
                                                                      · skip
                                                                        refine lv_aload_n hx hb dL_refusesAny_414 rfl (lv_at hl 5 rfl) ?_
                                                                        refine lv_iload_n hx hb dL_refusesAny_415 rfl (lv_at hl 3 rfl) ?_
                                                                        refine lv_bipush (v := nI 99) hx hb dL_refusesAny_416 (by decide) ?_
                                                                        refine h_op (st := []) C hS hP hD hl.1 (k_walker_out wk (nI 99) hwkb) gL_refusesAny_X4_walker rfl hd_walker ⟨Nat.le_of_ble_eq_true rfl, Nat.le_of_ble_eq_true rfl⟩ rfl rfl (Nat.le_of_ble_eq_true rfl) dL_refusesAny_418 ⟨Nat.le_of_ble_eq_true rfl, Nat.le_of_ble_eq_true rfl⟩ (fun H locs hP hD hS => ?_)
                                                                        refine lv_iconst (v := (-1)) hx hb dL_refusesAny_421 (by decide) ?_
                                                                        refine lv_icmp_ne (tgt := 664) hx hb dL_refusesAny_422 (by decide) (fun c_156 => ?_) (fun c_156 => ?_)
                                                                        · skip
                                                                          exact absurd (by decide) c_156
                                                                        · skip
                                                                          refine lv_aload_n hx hb dL_refusesAny_425 rfl (lv_at hl 5 rfl) ?_
                                                                          refine lv_iconst (v := nI 0) hx hb dL_refusesAny_426 (by decide) ?_
                                                                          refine lv_iload_n hx hb dL_refusesAny_427 rfl (lv_at hl 6 rfl) ?_
                                                                          refine lv_iconst (v := nI 2) hx hb dL_refusesAny_428 (by decide) ?_
                                                                          refine lv_irem hx hb dL_refusesAny_429 (by decide) ?_
                                                                          refine lv_eqi (pk_rem (by omega) (by omega) (by omega)) ?_
                                                                          refine lv_if_ne (tgt := 437) hx hb dL_refusesAny_430 (by decide) (fun c_157 => ?_) (fun c_157 => ?_)
                                                                          · skip
                                                                            refine lv_bipush (v := nI 6) hx hb dL_refusesAny_437 (by decide) ?_
                                                                            refine h_op (st := []) C hS hP hD hl.1 (k_walker_bad (w := 0) (by omega) (nI 6) (by decide)) gL_refusesAny_X4_walker rfl hd_walker ⟨Nat.le_of_ble_eq_true rfl, Nat.le_of_ble_eq_true rfl⟩ rfl rfl (Nat.le_of_ble_eq_true rfl) dL_refusesAny_439 ⟨Nat.le_of_ble_eq_true rfl, Nat.le_of_ble_eq_true rfl⟩ (fun H locs hP hD hS => ?_)
                                                                            refine lv_bipush (v := (-2)) hx hb dL_refusesAny_442 (by decide) ?_
                                                                            refine lv_icmp_ne (tgt := 664) hx hb dL_refusesAny_444 (by decide) (fun c_158 => ?_) (fun c_158 => ?_)
                                                                            · skip
                                                                              exact absurd (by decide) c_158
                                                                            · skip
                                                                              refine lv_aload_n hx hb dL_refusesAny_447 rfl (lv_at hl 5 rfl) ?_
                                                                              refine lv_iload_n hx hb dL_refusesAny_448 rfl (lv_at hl 3 rfl) ?_
                                                                              refine lv_iconst (v := nI 0) hx hb dL_refusesAny_449 (by decide) ?_
                                                                              refine h_op (st := []) C hS hP hD hl.1 (k_why_outw wk (nI 0) hwkb) gL_refusesAny_X4_why rfl hd_why ⟨Nat.le_of_ble_eq_true rfl, Nat.le_of_ble_eq_true rfl⟩ rfl rfl (Nat.le_of_ble_eq_true rfl) dL_refusesAny_450 ⟨Nat.le_of_ble_eq_true rfl, Nat.le_of_ble_eq_true rfl⟩ (fun H locs hP hD hS => ?_)
                                                                              refine lv_iconst (v := (-1)) hx hb dL_refusesAny_453 (by decide) ?_
                                                                              refine lv_icmp_ne (tgt := 664) hx hb dL_refusesAny_454 (by decide) (fun c_159 => ?_) (fun c_159 => ?_)
                                                                              · skip
                                                                                exact absurd (by decide) c_159
                                                                              · skip
                                                                                refine lv_aload_n hx hb dL_refusesAny_457 rfl (lv_at hl 5 rfl) ?_
                                                                                refine lv_iconst (v := nI 0) hx hb dL_refusesAny_458 (by decide) ?_
                                                                                refine lv_iload_n hx hb dL_refusesAny_459 rfl (lv_at hl 4 rfl) ?_
                                                                                refine h_op (st := []) C hS hP hD hl.1 (k_why_outp (w := 0) (by omega) pu hpub) gL_refusesAny_X4_why rfl hd_why ⟨Nat.le_of_ble_eq_true rfl, Nat.le_of_ble_eq_true rfl⟩ rfl rfl (Nat.le_of_ble_eq_true rfl) dL_refusesAny_460 ⟨Nat.le_of_ble_eq_true rfl, Nat.le_of_ble_eq_true rfl⟩ (fun H locs hP hD hS => ?_)
                                                                                refine lv_iconst (v := (-1)) hx hb dL_refusesAny_463 (by decide) ?_
                                                                                refine lv_icmp_ne (tgt := 664) hx hb dL_refusesAny_464 (by decide) (fun c_160 => ?_) (fun c_160 => ?_)
                                                                                · skip
                                                                                  exact absurd (by decide) c_160
                                                                                · skip
                                                                                  refine lv_aload_n hx hb dL_refusesAny_467 rfl (lv_at hl 5 rfl) ?_
                                                                                  refine lv_iload_n hx hb dL_refusesAny_468 rfl (lv_at hl 3 rfl) ?_
                                                                                  refine lv_iconst (v := nI 0) hx hb dL_refusesAny_469 (by decide) ?_
                                                                                  refine h_op (st := []) C hS hP hD hl.1 (k_holds_outw wk (nI 0) hwkb) gL_refusesAny_X4_holds rfl hd_holds ⟨Nat.le_of_ble_eq_true rfl, Nat.le_of_ble_eq_true rfl⟩ rfl rfl (Nat.le_of_ble_eq_true rfl) dL_refusesAny_470 ⟨Nat.le_of_ble_eq_true rfl, Nat.le_of_ble_eq_true rfl⟩ (fun H locs hP hD hS => ?_)
                                                                                  refine lv_iconst (v := (-1)) hx hb dL_refusesAny_473 (by decide) ?_
                                                                                  refine lv_icmp_ne (tgt := 664) hx hb dL_refusesAny_474 (by decide) (fun c_161 => ?_) (fun c_161 => ?_)
                                                                                  · skip
                                                                                    exact absurd (by decide) c_161
                                                                                  · skip
                                                                                    refine lv_aload_n hx hb dL_refusesAny_477 rfl (lv_at hl 5 rfl) ?_
                                                                                    refine lv_iconst (v := nI 0) hx hb dL_refusesAny_478 (by decide) ?_
                                                                                    refine lv_iload_n hx hb dL_refusesAny_479 rfl (lv_at hl 4 rfl) ?_
                                                                                    refine h_op (st := []) C hS hP hD hl.1 (k_holds_outp (w := 0) (by omega) pu hpub) gL_refusesAny_X4_holds rfl hd_holds ⟨Nat.le_of_ble_eq_true rfl, Nat.le_of_ble_eq_true rfl⟩ rfl rfl (Nat.le_of_ble_eq_true rfl) dL_refusesAny_480 ⟨Nat.le_of_ble_eq_true rfl, Nat.le_of_ble_eq_true rfl⟩ (fun H locs hP hD hS => ?_)
                                                                                    refine lv_iconst (v := (-1)) hx hb dL_refusesAny_483 (by decide) ?_
                                                                                    refine lv_icmp_ne (tgt := 664) hx hb dL_refusesAny_484 (by decide) (fun c_162 => ?_) (fun c_162 => ?_)
                                                                                    · skip
                                                                                      exact absurd (by decide) c_162
                                                                                    · skip
                                                                                      refine lv_aload_n hx hb dL_refusesAny_487 rfl (lv_at hl 5 rfl) ?_
                                                                                      refine lv_iload_n hx hb dL_refusesAny_488 rfl (lv_at hl 6 rfl) ?_
                                                                                      refine lv_iconst (v := nI 2) hx hb dL_refusesAny_489 (by decide) ?_
                                                                                      refine lv_irem hx hb dL_refusesAny_490 (by decide) ?_
                                                                                      refine lv_eqi (pk_rem (by omega) (by omega) (by omega)) ?_
                                                                                      refine lv_if_ne (tgt := 498) hx hb dL_refusesAny_491 (by decide) (fun c_163 => ?_) (fun c_163 => ?_)
                                                                                      · skip
                                                                                        refine lv_bipush (v := nI 16) hx hb dL_refusesAny_498 (by decide) ?_
                                                                                        refine h_op (st := []) C hS hP hD hl.1 (k_count_bad (nI 16) (by decide)) gL_refusesAny_X4_count rfl hd_count ⟨Nat.le_of_ble_eq_true rfl, Nat.le_of_ble_eq_true rfl⟩ rfl rfl (Nat.le_of_ble_eq_true rfl) dL_refusesAny_500 ⟨Nat.le_of_ble_eq_true rfl, Nat.le_of_ble_eq_true rfl⟩ (fun H locs hP hD hS => ?_)
                                                                                        refine lv_bipush (v := (-2)) hx hb dL_refusesAny_503 (by decide) ?_
                                                                                        refine lv_icmp_ne (tgt := 664) hx hb dL_refusesAny_505 (by decide) (fun c_164 => ?_) (fun c_164 => ?_)
                                                                                        · skip
                                                                                          exact absurd (by decide) c_164
                                                                                        · skip
                                                                                          refine lv_aload_n hx hb dL_refusesAny_508 rfl (lv_at hl 5 rfl) ?_
                                                                                          refine lv_iload_n hx hb dL_refusesAny_509 rfl (lv_at hl 3 rfl) ?_
                                                                                          refine lv_iconst (v := nI 0) hx hb dL_refusesAny_510 (by decide) ?_
                                                                                          refine lv_iconst (v := nI 0) hx hb dL_refusesAny_511 (by decide) ?_
                                                                                          refine lv_bipush (v := nI 9) hx hb dL_refusesAny_512 (by decide) ?_
                                                                                          refine h_op (st := []) C hS hP hD hl.1 (k_cost_outw wk (nI 0) (nI 0) (nI 9) hwkb) gL_refusesAny_X4_cost rfl hd_cost ⟨Nat.le_of_ble_eq_true rfl, Nat.le_of_ble_eq_true rfl⟩ rfl rfl (Nat.le_of_ble_eq_true rfl) dL_refusesAny_514 ⟨Nat.le_of_ble_eq_true rfl, Nat.le_of_ble_eq_true rfl⟩ (fun H locs hP hD hS => ?_)
                                                                                          refine lv_iconst (v := (-1)) hx hb dL_refusesAny_517 (by decide) ?_
                                                                                          refine lv_icmp_ne (tgt := 664) hx hb dL_refusesAny_518 (by decide) (fun c_165 => ?_) (fun c_165 => ?_)
                                                                                          · skip
                                                                                            exact absurd (by decide) c_165
                                                                                          · skip
                                                                                            refine lv_aload_n hx hb dL_refusesAny_521 rfl (lv_at hl 5 rfl) ?_
                                                                                            refine lv_iconst (v := nI 0) hx hb dL_refusesAny_522 (by decide) ?_
                                                                                            refine lv_iload_n hx hb dL_refusesAny_523 rfl (lv_at hl 4 rfl) ?_
                                                                                            refine lv_iconst (v := nI 0) hx hb dL_refusesAny_524 (by decide) ?_
                                                                                            refine lv_bipush (v := nI 9) hx hb dL_refusesAny_525 (by decide) ?_
                                                                                            refine h_op (st := []) C hS hP hD hl.1 (k_cost_outf (w := 0) (by omega) pu (nI 0) (nI 9) hpub) gL_refusesAny_X4_cost rfl hd_cost ⟨Nat.le_of_ble_eq_true rfl, Nat.le_of_ble_eq_true rfl⟩ rfl rfl (Nat.le_of_ble_eq_true rfl) dL_refusesAny_527 ⟨Nat.le_of_ble_eq_true rfl, Nat.le_of_ble_eq_true rfl⟩ (fun H locs hP hD hS => ?_)
                                                                                            refine lv_iconst (v := (-1)) hx hb dL_refusesAny_530 (by decide) ?_
                                                                                            refine lv_icmp_ne (tgt := 664) hx hb dL_refusesAny_531 (by decide) (fun c_166 => ?_) (fun c_166 => ?_)
                                                                                            · skip
                                                                                              exact absurd (by decide) c_166
                                                                                            · skip
                                                                                              refine lv_aload_n hx hb dL_refusesAny_534 rfl (lv_at hl 5 rfl) ?_
                                                                                              refine lv_iconst (v := nI 0) hx hb dL_refusesAny_535 (by decide) ?_
                                                                                              refine lv_iconst (v := nI 0) hx hb dL_refusesAny_536 (by decide) ?_
                                                                                              refine lv_iload_n hx hb dL_refusesAny_537 rfl (lv_at hl 4 rfl) ?_
                                                                                              refine lv_bipush (v := nI 9) hx hb dL_refusesAny_538 (by decide) ?_
                                                                                              refine h_op (st := []) C hS hP hD hl.1 (k_cost_outt (w := 0) (f := 0) (by omega) (by omega) pu (nI 9) hpub) gL_refusesAny_X4_cost rfl hd_cost ⟨Nat.le_of_ble_eq_true rfl, Nat.le_of_ble_eq_true rfl⟩ rfl rfl (Nat.le_of_ble_eq_true rfl) dL_refusesAny_540 ⟨Nat.le_of_ble_eq_true rfl, Nat.le_of_ble_eq_true rfl⟩ (fun H locs hP hD hS => ?_)
                                                                                              refine lv_iconst (v := (-1)) hx hb dL_refusesAny_543 (by decide) ?_
                                                                                              refine lv_icmp_ne (tgt := 664) hx hb dL_refusesAny_544 (by decide) (fun c_167 => ?_) (fun c_167 => ?_)
                                                                                              · skip
                                                                                                exact absurd (by decide) c_167
                                                                                              · skip
                                                                                                refine lv_aload_n hx hb dL_refusesAny_547 rfl (lv_at hl 5 rfl) ?_
                                                                                                refine lv_iconst (v := nI 0) hx hb dL_refusesAny_548 (by decide) ?_
                                                                                                refine lv_iconst (v := nI 0) hx hb dL_refusesAny_549 (by decide) ?_
                                                                                                refine lv_iconst (v := nI 0) hx hb dL_refusesAny_550 (by decide) ?_
                                                                                                refine lv_iload_n hx hb dL_refusesAny_551 rfl (lv_at hl 6 rfl) ?_
                                                                                                refine lv_iconst (v := nI 2) hx hb dL_refusesAny_552 (by decide) ?_
                                                                                                refine lv_irem hx hb dL_refusesAny_553 (by decide) ?_
                                                                                                refine lv_eqi (pk_rem (by omega) (by omega) (by omega)) ?_
                                                                                                refine lv_if_ne (tgt := 561) hx hb dL_refusesAny_554 (by decide) (fun c_168 => ?_) (fun c_168 => ?_)
                                                                                                · skip
                                                                                                  refine lv_iconst (v := nI 2) hx hb dL_refusesAny_561 (by decide) ?_
                                                                                                  refine h_op (st := []) C hS hP hD hl.1 (k_cost_bad (w := 0) (f := 0) (t := 0) (by omega) (by omega) (by omega) (nI 2) (by decide) (by decide)) gL_refusesAny_X4_cost rfl hd_cost ⟨Nat.le_of_ble_eq_true rfl, Nat.le_of_ble_eq_true rfl⟩ rfl rfl (Nat.le_of_ble_eq_true rfl) dL_refusesAny_562 ⟨Nat.le_of_ble_eq_true rfl, Nat.le_of_ble_eq_true rfl⟩ (fun H locs hP hD hS => ?_)
                                                                                                  refine lv_bipush (v := (-2)) hx hb dL_refusesAny_565 (by decide) ?_
                                                                                                  refine lv_icmp_ne (tgt := 664) hx hb dL_refusesAny_567 (by decide) (fun c_169 => ?_) (fun c_169 => ?_)
                                                                                                  · skip
                                                                                                    exact absurd (by decide) c_169
                                                                                                  · skip
                                                                                                    refine lv_aload_n hx hb dL_refusesAny_570 rfl (lv_at hl 5 rfl) ?_
                                                                                                    refine lv_iload_n hx hb dL_refusesAny_571 rfl (lv_at hl 4 rfl) ?_
                                                                                                    refine h_op (st := []) C hS hP hD hl.1 (k_untilDry_out pu hpub) gL_refusesAny_X4_untilDry rfl hd_untilDry ⟨Nat.le_of_ble_eq_true rfl, Nat.le_of_ble_eq_true rfl⟩ rfl rfl (Nat.le_of_ble_eq_true rfl) dL_refusesAny_572 ⟨Nat.le_of_ble_eq_true rfl, Nat.le_of_ble_eq_true rfl⟩ (fun H locs hP hD hS => ?_)
                                                                                                    refine lv_iconst (v := (-1)) hx hb dL_refusesAny_575 (by decide) ?_
                                                                                                    refine lv_icmp_ne (tgt := 664) hx hb dL_refusesAny_576 (by decide) (fun c_170 => ?_) (fun c_170 => ?_)
                                                                                                    · skip
                                                                                                      exact absurd (by decide) c_170
                                                                                                    · skip
                                                                                                      refine lv_aload_n hx hb dL_refusesAny_579 rfl (lv_at hl 5 rfl) ?_
                                                                                                      refine lv_iload_n hx hb dL_refusesAny_580 rfl (lv_at hl 3 rfl) ?_
                                                                                                      refine h_op (st := []) C hS hP hD hl.1 (k_leastShoes_out wk hwkb) gL_refusesAny_X4_leastShoes rfl hd_leastShoes ⟨Nat.le_of_ble_eq_true rfl, Nat.le_of_ble_eq_true rfl⟩ rfl rfl (Nat.le_of_ble_eq_true rfl) dL_refusesAny_581 ⟨Nat.le_of_ble_eq_true rfl, Nat.le_of_ble_eq_true rfl⟩ (fun H locs hP hD hS => ?_)
                                                                                                      refine lv_iconst (v := (-1)) hx hb dL_refusesAny_584 (by decide) ?_
                                                                                                      refine lv_icmp_ne (tgt := 664) hx hb dL_refusesAny_585 (by decide) (fun c_171 => ?_) (fun c_171 => ?_)
                                                                                                      · skip
                                                                                                        exact absurd (by decide) c_171
                                                                                                      · skip
                                                                                                        refine lv_aload_n hx hb dL_refusesAny_588 rfl (lv_at hl 5 rfl) ?_
                                                                                                        refine lv_iload_n hx hb dL_refusesAny_589 rfl (lv_at hl 3 rfl) ?_
                                                                                                        refine lv_bipush (v := nI 9) hx hb dL_refusesAny_590 (by decide) ?_
                                                                                                        refine h_op (st := []) C hS hP hD hl.1 (k_longestWalk_out wk (nI 9) hwkb) gL_refusesAny_X4_longestWalk rfl hd_longestWalk ⟨Nat.le_of_ble_eq_true rfl, Nat.le_of_ble_eq_true rfl⟩ rfl rfl (Nat.le_of_ble_eq_true rfl) dL_refusesAny_592 ⟨Nat.le_of_ble_eq_true rfl, Nat.le_of_ble_eq_true rfl⟩ (fun H locs hP hD hS => ?_)
                                                                                                        refine lv_iconst (v := (-1)) hx hb dL_refusesAny_595 (by decide) ?_
                                                                                                        refine lv_icmp_ne (tgt := 664) hx hb dL_refusesAny_596 (by decide) (fun c_172 => ?_) (fun c_172 => ?_)
                                                                                                        · skip
                                                                                                          exact absurd (by decide) c_172
                                                                                                        · skip
                                                                                                          refine lv_aload_n hx hb dL_refusesAny_599 rfl (lv_at hl 5 rfl) ?_
                                                                                                          refine lv_iconst (v := nI 0) hx hb dL_refusesAny_600 (by decide) ?_
                                                                                                          refine lv_iload_n hx hb dL_refusesAny_601 rfl (lv_at hl 6 rfl) ?_
                                                                                                          refine lv_iconst (v := nI 2) hx hb dL_refusesAny_602 (by decide) ?_
                                                                                                          refine lv_irem hx hb dL_refusesAny_603 (by decide) ?_
                                                                                                          refine lv_eqi (pk_rem (by omega) (by omega) (by omega)) ?_
                                                                                                          refine lv_if_ne (tgt := 611) hx hb dL_refusesAny_604 (by decide) (fun c_173 => ?_) (fun c_173 => ?_)
                                                                                                          · skip
                                                                                                            refine lv_iconst (v := nI 2) hx hb dL_refusesAny_611 (by decide) ?_
                                                                                                            refine h_op (st := []) C hS hP hD hl.1 (k_longestWalk_bad (w := 0) (by omega) (nI 2) (by decide) (by decide)) gL_refusesAny_X4_longestWalk rfl hd_longestWalk ⟨Nat.le_of_ble_eq_true rfl, Nat.le_of_ble_eq_true rfl⟩ rfl rfl (Nat.le_of_ble_eq_true rfl) dL_refusesAny_612 ⟨Nat.le_of_ble_eq_true rfl, Nat.le_of_ble_eq_true rfl⟩ (fun H locs hP hD hS => ?_)
                                                                                                            refine lv_bipush (v := (-2)) hx hb dL_refusesAny_615 (by decide) ?_
                                                                                                            refine lv_icmp_ne (tgt := 664) hx hb dL_refusesAny_617 (by decide) (fun c_174 => ?_) (fun c_174 => ?_)
                                                                                                            · skip
                                                                                                              exact absurd (by decide) c_174
                                                                                                            · skip
                                                                                                              refine lv_aload_n hx hb dL_refusesAny_620 rfl (lv_at hl 5 rfl) ?_
                                                                                                              refine lv_iload_n hx hb dL_refusesAny_621 rfl (lv_at hl 6 rfl) ?_
                                                                                                              refine lv_iconst (v := nI 2) hx hb dL_refusesAny_622 (by decide) ?_
                                                                                                              refine lv_irem hx hb dL_refusesAny_623 (by decide) ?_
                                                                                                              refine lv_eqi (pk_rem (by omega) (by omega) (by omega)) ?_
                                                                                                              refine lv_if_ne (tgt := 631) hx hb dL_refusesAny_624 (by decide) (fun c_175 => ?_) (fun c_175 => ?_)
                                                                                                              · skip
                                                                                                                refine lv_iconst (v := nI 2) hx hb dL_refusesAny_631 (by decide) ?_
                                                                                                                refine h_op (st := []) C hS hP hD hl.1 (k_save_out (nI 2) (by decide)) gL_refusesAny_X4_save rfl hd_save ⟨Nat.le_of_ble_eq_true rfl, Nat.le_of_ble_eq_true rfl⟩ rfl rfl (Nat.le_of_ble_eq_true rfl) dL_refusesAny_632 ⟨Nat.le_of_ble_eq_true rfl, Nat.le_of_ble_eq_true rfl⟩ (fun H locs hP hD hS => ?_)
                                                                                                                refine lv_bipush (v := (-2)) hx hb dL_refusesAny_635 (by decide) ?_
                                                                                                                refine lv_icmp_ne (tgt := 664) hx hb dL_refusesAny_637 (by decide) (fun c_176 => ?_) (fun c_176 => ?_)
                                                                                                                · skip
                                                                                                                  exact absurd (by decide) c_176
                                                                                                                · skip
                                                                                                                  refine lv_aload_n hx hb dL_refusesAny_640 rfl (lv_at hl 5 rfl) ?_
                                                                                                                  refine lv_iload_n hx hb dL_refusesAny_641 rfl (lv_at hl 6 rfl) ?_
                                                                                                                  refine lv_iconst (v := nI 2) hx hb dL_refusesAny_642 (by decide) ?_
                                                                                                                  refine lv_irem hx hb dL_refusesAny_643 (by decide) ?_
                                                                                                                  refine lv_eqi (pk_rem (by omega) (by omega) (by omega)) ?_
                                                                                                                  refine lv_if_ne (tgt := 651) hx hb dL_refusesAny_644 (by decide) (fun c_177 => ?_) (fun c_177 => ?_)
                                                                                                                  · skip
                                                                                                                    refine lv_iconst (v := nI 2) hx hb dL_refusesAny_651 (by decide) ?_
                                                                                                                    refine h_op (st := []) C hS hP hD hl.1 (k_restore_out (nI 2) (by decide)) gL_refusesAny_X4_restore rfl hd_restore ⟨Nat.le_of_ble_eq_true rfl, Nat.le_of_ble_eq_true rfl⟩ rfl rfl (Nat.le_of_ble_eq_true rfl) dL_refusesAny_652 ⟨Nat.le_of_ble_eq_true rfl, Nat.le_of_ble_eq_true rfl⟩ (fun H locs hP hD hS => ?_)
                                                                                                                    refine lv_bipush (v := (-2)) hx hb dL_refusesAny_655 (by decide) ?_
                                                                                                                    refine lv_icmp_ne (tgt := 664) hx hb dL_refusesAny_657 (by decide) (fun c_178 => ?_) (fun c_178 => ?_)
                                                                                                                    · skip
                                                                                                                      exact absurd (by decide) c_178
                                                                                                                    · skip
                                                                                                                      refine lv_iconst (v := nI 1) hx hb dL_refusesAny_660 (by decide) ?_
                                                                                                                      refine lv_goto (tgt := 665) hx hb dL_refusesAny_661 (by decide) ?_
                                                                                                                      refine lv_istore (lv' := [(6, .int (nI 1)), (5, .int (nI 0)), (4, .int (nI (X % 12))), (3, .int wk), (2, .int pu), (0, .ref B.1.1), (1, .int (nI X))]) hx hb dL_refusesAny_665 hl (by decide) rfl (fun ls hl => ?_)
                                                                                                                      refine lv_iload hx hb dL_refusesAny_667 (lv_at hl 0 rfl) ?_
                                                                                                                      refine lv_if_eq (tgt := 699) hx hb dL_refusesAny_669 (by decide) (fun c_179 => ?_) (fun c_179 => ?_)
                                                                                                                      · skip
                                                                                                                        exact absurd c_179 (by decide)
                                                                                                                      · skip
                                                                                                                        refine lv_aload_n hx hb dL_refusesAny_672 rfl (lv_at hl 5 rfl) ?_
                                                                                                                        refine h_op (st := []) C hS hP hD hl.1 (k_wipe h0) gL_refusesAny_X4_wipe rfl hd_wipe ⟨Nat.le_of_ble_eq_true rfl, Nat.le_of_ble_eq_true rfl⟩ rfl rfl (Nat.le_of_ble_eq_true rfl) dL_refusesAny_673 ⟨Nat.le_of_ble_eq_true rfl, Nat.le_of_ble_eq_true rfl⟩ (fun H locs hP hD hS => ?_)
                                                                                                                        refine lv_if_ne (tgt := 699) hx hb dL_refusesAny_676 (by decide) (fun c_180 => ?_) (fun c_180 => ?_)
                                                                                                                        · skip
                                                                                                                          exact absurd (by decide) c_180
                                                                                                                        · skip
                                                                                                                          refine lv_aload_n hx hb dL_refusesAny_679 rfl (lv_at hl 5 rfl) ?_
                                                                                                                          refine h_op (st := []) C hS hP hD hl.1 (k_read h0) gL_refusesAny_X4_read rfl hd_read ⟨Nat.le_of_ble_eq_true rfl, Nat.le_of_ble_eq_true rfl⟩ rfl rfl (Nat.le_of_ble_eq_true rfl) dL_refusesAny_680 ⟨Nat.le_of_ble_eq_true rfl, Nat.le_of_ble_eq_true rfl⟩ (fun H locs hP hD hS => ?_)
                                                                                                                          refine lv_bipush (v := (-3)) hx hb dL_refusesAny_683 (by decide) ?_
                                                                                                                          refine lv_icmp_ne (tgt := 699) hx hb dL_refusesAny_685 (by decide) (fun c_181 => ?_) (fun c_181 => ?_)
                                                                                                                          · skip
                                                                                                                            exact absurd (by decide) c_181
                                                                                                                          · skip
                                                                                                                            refine lv_aload_n hx hb dL_refusesAny_688 rfl (lv_at hl 5 rfl) ?_
                                                                                                                            refine h_op (st := []) C hS hP hD hl.1 (k_fault h0) gL_refusesAny_X4_fault rfl hd_fault ⟨Nat.le_of_ble_eq_true rfl, Nat.le_of_ble_eq_true rfl⟩ rfl rfl (Nat.le_of_ble_eq_true rfl) dL_refusesAny_689 ⟨Nat.le_of_ble_eq_true rfl, Nat.le_of_ble_eq_true rfl⟩ (fun H locs hP hD hS => ?_)
                                                                                                                            refine lv_if_ne (tgt := 699) hx hb dL_refusesAny_692 (by decide) (fun c_182 => ?_) (fun c_182 => ?_)
                                                                                                                            · skip
                                                                                                                              exact absurd (by decide) c_182
                                                                                                                            · skip
                                                                                                                              refine lv_iconst (v := nI 1) hx hb dL_refusesAny_695 (by decide) ?_
                                                                                                                              refine lv_goto (tgt := 700) hx hb dL_refusesAny_696 (by decide) ?_
                                                                                                                              exact hret _ _ _ _ hP hS dL_refusesAny_700
                                                                                                                  · skip
                                                                                                                    exact absurd ((nI_eq (a := (X % 2)) (b := 0) (by omega) (by omega)).mp c_177) (by omega)
                                                                                                              · skip
                                                                                                                exact absurd ((nI_eq (a := (X % 2)) (b := 0) (by omega) (by omega)).mp c_175) (by omega)
                                                                                                          · skip
                                                                                                            exact absurd ((nI_eq (a := (X % 2)) (b := 0) (by omega) (by omega)).mp c_173) (by omega)
                                                                                                · skip
                                                                                                  exact absurd ((nI_eq (a := (X % 2)) (b := 0) (by omega) (by omega)).mp c_168) (by omega)
                                                                                      · skip
                                                                                        exact absurd ((nI_eq (a := (X % 2)) (b := 0) (by omega) (by omega)).mp c_163) (by omega)
                                                                          · skip
                                                                            exact absurd ((nI_eq (a := (X % 2)) (b := 0) (by omega) (by omega)).mp c_157) (by omega)
                                                                    · skip
                                                                      exact absurd ((nI_eq (a := (X % 2)) (b := 0) (by omega) (by omega)).mp c_154) (by omega)
                                                            · skip
                                                              exact absurd ((nI_eq (a := (X % 2)) (b := 0) (by omega) (by omega)).mp c_150) (by omega)
                                            · skip
                                              exact absurd ((nI_eq (a := (X % 2)) (b := 0) (by omega) (by omega)).mp c_142) (by omega)
                                        · skip
                                          exact absurd (by decide) c_140
                                  · skip
                                    exact absurd ((nI_eq (a := (X % 2)) (b := 0) (by omega) (by omega)).mp c_137) (by omega)
                            · skip
                              exact absurd ((nI_eq (a := (X % 2)) (b := 0) (by omega) (by omega)).mp c_134) (by omega)
                        · skip
                          exact absurd ((nI_eq (a := (X % 2)) (b := 0) (by omega) (by omega)).mp c_132) (by omega)
                    · skip
                      exact absurd ((nI_eq (a := (X % 2)) (b := 0) (by omega) (by omega)).mp c_130) (by omega)
                · skip
                  exact absurd ((nI_eq (a := (X % 2)) (b := 0) (by omega) (by omega)).mp c_128) (by omega)
            · skip
              exact absurd ((nI_eq (a := (X % 2)) (b := 0) (by omega) (by omega)).mp c_126) (by omega)
          · skip
            exact absurd c_125 (dk_0 hd)
        · skip
          exact absurd ((nI_eq (a := (X % 2)) (b := 0) (by omega) (by omega)).mp c_124) (by omega)
      · skip
        exact absurd ((nI_eq (a := (X % 2)) (b := 0) (by omega) (by omega)).mp c_123) (by omega)
    · skip
      refine lv_iload_n hx hb dL_refusesAny_0 rfl (lv_at hl 1 rfl) ?_
      refine lv_iconst (v := nI 2) hx hb dL_refusesAny_1 (by decide) ?_
      refine lv_irem hx hb dL_refusesAny_2 (by decide) ?_
      refine lv_eqi (pk_rem (by omega) (by omega) (by omega)) ?_
      refine lv_if_ne (tgt := 15) hx hb dL_refusesAny_3 (by decide) (fun c_183 => ?_) (fun c_183 => ?_)
      · skip
        refine lv_bipush (v := nI 12) hx hb dL_refusesAny_15 (by decide) ?_
        refine lv_iload_n hx hb dL_refusesAny_17 rfl (lv_at hl 1 rfl) ?_
        refine lv_bipush (v := nI 99) hx hb dL_refusesAny_18 (by decide) ?_
        refine lv_irem hx hb dL_refusesAny_20 (by decide) ?_
        refine lv_eqi (pk_rem (by omega) (by omega) (by omega)) ?_
        refine lv_iadd hx hb dL_refusesAny_21 ?_
        refine lv_eqi (nI_add _ _) ?_
        obtain ⟨pu, hpu⟩ : ∃ x : Int32, x = nI (12 + (X % 99)) := ⟨_, rfl⟩
        refine lv_eqi hpu.symm ?_
        have hpub : pu < 0 ∨ nI 12 ≤ pu := Or.inr (by rw [hpu]; exact nI_le (by omega) (by omega))
        refine lv_istore_n (lv' := [(2, .int pu), (0, .ref B.1.1), (1, .int (nI X))]) hx hb dL_refusesAny_22 rfl hl (by decide) rfl (fun ls hl => ?_)
        refine lv_iload_n hx hb dL_refusesAny_23 rfl (lv_at hl 2 rfl) ?_
        refine lv_iconst (v := nI 2) hx hb dL_refusesAny_24 (by decide) ?_
        refine lv_irem hx hb dL_refusesAny_25 (by decide) ?_
        refine lv_eqi (pk_rem (by omega) (by omega) (by omega)) ?_
        refine lv_if_ne (tgt := 38) hx hb dL_refusesAny_26 (by decide) (fun c_184 => ?_) (fun c_184 => ?_)
        · skip
          refine lv_bipush (v := nI 6) hx hb dL_refusesAny_38 (by decide) ?_
          refine lv_iload_n hx hb dL_refusesAny_40 rfl (lv_at hl 2 rfl) ?_
          refine lv_bipush (v := nI 99) hx hb dL_refusesAny_41 (by decide) ?_
          refine lv_irem hx hb dL_refusesAny_43 (by decide) ?_
          refine lv_eqi (pk_rem (by omega) (by omega) (by omega)) ?_
          refine lv_iadd hx hb dL_refusesAny_44 ?_
          refine lv_eqi (nI_add _ _) ?_
          obtain ⟨wk, hwk⟩ : ∃ x : Int32, x = nI (6 + (X % 99)) := ⟨_, rfl⟩
          refine lv_eqi hwk.symm ?_
          have hwkb : wk < 0 ∨ nI 6 ≤ wk := Or.inr (by rw [hwk]; exact nI_le (by omega) (by omega))
          refine lv_istore_n (lv' := [(3, .int wk), (2, .int pu), (0, .ref B.1.1), (1, .int (nI X))]) hx hb dL_refusesAny_45 rfl hl (by decide) rfl (fun ls hl => ?_)
          refine lv_iload_n hx hb dL_refusesAny_46 rfl (lv_at hl 3 rfl) ?_
          refine lv_bipush (v := nI 12) hx hb dL_refusesAny_47 (by decide) ?_
          refine lv_irem hx hb dL_refusesAny_49 (by decide) ?_
          refine lv_eqi (pk_rem (by omega) (by omega) (by omega)) ?_
          refine lv_istore (lv' := [(4, .int (nI (X % 12))), (3, .int wk), (2, .int pu), (0, .ref B.1.1), (1, .int (nI X))]) hx hb dL_refusesAny_50 hl (by decide) rfl (fun ls hl => ?_)
          refine lv_aload_n hx hb dL_refusesAny_52 rfl (lv_at hl 3 rfl) ?_
          refine lv_bipush (v := nI 10) hx hb dL_refusesAny_53 (by decide) ?_
          refine h_op (st := []) C hS hP hD hl.1 (k_count h0 (q := 10) (by decide)) gL_refusesAny_X4_count rfl hd_count ⟨Nat.le_of_ble_eq_true rfl, Nat.le_of_ble_eq_true rfl⟩ rfl rfl (Nat.le_of_ble_eq_true rfl) dL_refusesAny_55 ⟨Nat.le_of_ble_eq_true rfl, Nat.le_of_ble_eq_true rfl⟩ (fun H locs hP hD hS => ?_)
          refine lv_eqi (y := s_dk v.1) (rfl) ?_
          refine lv_iload hx hb dL_refusesAny_58 (lv_at hl 0 rfl) ?_
          refine lv_ishr hx hb dL_refusesAny_60 ?_
          refine lv_iconst (v := nI 1) hx hb dL_refusesAny_61 (by decide) ?_
          refine lv_iand hx hb dL_refusesAny_62 ?_
          refine lv_iconst (v := nI 1) hx hb dL_refusesAny_63 (by decide) ?_
          refine lv_icmp_ne (tgt := 71) hx hb dL_refusesAny_64 (by decide) (fun c_185 => ?_) (fun c_185 => ?_)
          · skip
            exact absurd (dk_1 hd) c_185
          · skip
            refine lv_iconst (v := nI 1) hx hb dL_refusesAny_67 (by decide) ?_
            refine lv_goto (tgt := 72) hx hb dL_refusesAny_68 (by decide) ?_
            refine lv_istore (lv' := [(5, .int (nI 1)), (4, .int (nI (X % 12))), (3, .int wk), (2, .int pu), (0, .ref B.1.1), (1, .int (nI X))]) hx hb dL_refusesAny_72 hl (by decide) rfl (fun ls hl => ?_)
            refine lv_aload_n hx hb dL_refusesAny_74 rfl (lv_at hl 4 rfl) ?_
            refine lv_iload_n hx hb dL_refusesAny_75 rfl (lv_at hl 5 rfl) ?_
            refine lv_iconst (v := nI 2) hx hb dL_refusesAny_76 (by decide) ?_
            refine lv_irem hx hb dL_refusesAny_77 (by decide) ?_
            refine lv_eqi (pk_rem (by omega) (by omega) (by omega)) ?_
            refine lv_if_ne (tgt := 85) hx hb dL_refusesAny_78 (by decide) (fun c_186 => ?_) (fun c_186 => ?_)
            · skip
              refine lv_iconst (v := nI 4) hx hb dL_refusesAny_85 (by decide) ?_
              refine lv_iconst (v := nI 5) hx hb dL_refusesAny_86 (by decide) ?_
              refine h_op (st := []) C hS hP hD hl.1 (k_set_out (nI 4) (nI 5) (by decide)) gL_refusesAny_X4_set rfl hd_set ⟨Nat.le_of_ble_eq_true rfl, Nat.le_of_ble_eq_true rfl⟩ rfl rfl (Nat.le_of_ble_eq_true rfl) dL_refusesAny_87 ⟨Nat.le_of_ble_eq_true rfl, Nat.le_of_ble_eq_true rfl⟩ (fun H locs hP hD hS => ?_)
              refine lv_bipush (v := (-2)) hx hb dL_refusesAny_90 (by decide) ?_
              refine lv_icmp_ne (tgt := 372) hx hb dL_refusesAny_92 (by decide) (fun c_187 => ?_) (fun c_187 => ?_)
              · skip
                exact absurd (by decide) c_187
              · skip
                refine lv_aload_n hx hb dL_refusesAny_95 rfl (lv_at hl 4 rfl) ?_
                refine lv_iconst (v := nI 0) hx hb dL_refusesAny_96 (by decide) ?_
                refine lv_iload_n hx hb dL_refusesAny_97 rfl (lv_at hl 5 rfl) ?_
                refine lv_iconst (v := nI 2) hx hb dL_refusesAny_98 (by decide) ?_
                refine lv_irem hx hb dL_refusesAny_99 (by decide) ?_
                refine lv_eqi (pk_rem (by omega) (by omega) (by omega)) ?_
                refine lv_if_ne (tgt := 107) hx hb dL_refusesAny_100 (by decide) (fun c_188 => ?_) (fun c_188 => ?_)
                · skip
                  refine lv_bipush (v := nI 21) hx hb dL_refusesAny_107 (by decide) ?_
                  refine h_op (st := []) C hS hP hD hl.1 (k_set_bad (k := 0) (by decide) (nI 21) (by decide)) gL_refusesAny_X4_set rfl hd_set ⟨Nat.le_of_ble_eq_true rfl, Nat.le_of_ble_eq_true rfl⟩ rfl rfl (Nat.le_of_ble_eq_true rfl) dL_refusesAny_109 ⟨Nat.le_of_ble_eq_true rfl, Nat.le_of_ble_eq_true rfl⟩ (fun H locs hP hD hS => ?_)
                  refine lv_bipush (v := (-2)) hx hb dL_refusesAny_112 (by decide) ?_
                  refine lv_icmp_ne (tgt := 372) hx hb dL_refusesAny_114 (by decide) (fun c_189 => ?_) (fun c_189 => ?_)
                  · skip
                    exact absurd (by decide) c_189
                  · skip
                    refine lv_aload_n hx hb dL_refusesAny_117 rfl (lv_at hl 4 rfl) ?_
                    refine lv_iconst (v := nI 1) hx hb dL_refusesAny_118 (by decide) ?_
                    refine lv_iload_n hx hb dL_refusesAny_119 rfl (lv_at hl 5 rfl) ?_
                    refine lv_iconst (v := nI 2) hx hb dL_refusesAny_120 (by decide) ?_
                    refine lv_irem hx hb dL_refusesAny_121 (by decide) ?_
                    refine lv_eqi (pk_rem (by omega) (by omega) (by omega)) ?_
                    refine lv_if_ne (tgt := 129) hx hb dL_refusesAny_122 (by decide) (fun c_190 => ?_) (fun c_190 => ?_)
                    · skip
                      refine lv_bipush (v := nI 21) hx hb dL_refusesAny_129 (by decide) ?_
                      refine h_op (st := []) C hS hP hD hl.1 (k_set_bad (k := 1) (by decide) (nI 21) (by decide)) gL_refusesAny_X4_set rfl hd_set ⟨Nat.le_of_ble_eq_true rfl, Nat.le_of_ble_eq_true rfl⟩ rfl rfl (Nat.le_of_ble_eq_true rfl) dL_refusesAny_131 ⟨Nat.le_of_ble_eq_true rfl, Nat.le_of_ble_eq_true rfl⟩ (fun H locs hP hD hS => ?_)
                      refine lv_bipush (v := (-2)) hx hb dL_refusesAny_134 (by decide) ?_
                      refine lv_icmp_ne (tgt := 372) hx hb dL_refusesAny_136 (by decide) (fun c_191 => ?_) (fun c_191 => ?_)
                      · skip
                        exact absurd (by decide) c_191
                      · skip
                        refine lv_aload_n hx hb dL_refusesAny_139 rfl (lv_at hl 4 rfl) ?_
                        refine lv_iconst (v := nI 2) hx hb dL_refusesAny_140 (by decide) ?_
                        refine lv_iload_n hx hb dL_refusesAny_141 rfl (lv_at hl 5 rfl) ?_
                        refine lv_iconst (v := nI 2) hx hb dL_refusesAny_142 (by decide) ?_
                        refine lv_irem hx hb dL_refusesAny_143 (by decide) ?_
                        refine lv_eqi (pk_rem (by omega) (by omega) (by omega)) ?_
                        refine lv_if_ne (tgt := 151) hx hb dL_refusesAny_144 (by decide) (fun c_192 => ?_) (fun c_192 => ?_)
                        · skip
                          refine lv_bipush (v := nI 100) hx hb dL_refusesAny_151 (by decide) ?_
                          refine h_op (st := []) C hS hP hD hl.1 (k_set_bad (k := 2) (by decide) (nI 100) (by decide)) gL_refusesAny_X4_set rfl hd_set ⟨Nat.le_of_ble_eq_true rfl, Nat.le_of_ble_eq_true rfl⟩ rfl rfl (Nat.le_of_ble_eq_true rfl) dL_refusesAny_153 ⟨Nat.le_of_ble_eq_true rfl, Nat.le_of_ble_eq_true rfl⟩ (fun H locs hP hD hS => ?_)
                          refine lv_bipush (v := (-2)) hx hb dL_refusesAny_156 (by decide) ?_
                          refine lv_icmp_ne (tgt := 372) hx hb dL_refusesAny_158 (by decide) (fun c_193 => ?_) (fun c_193 => ?_)
                          · skip
                            exact absurd (by decide) c_193
                          · skip
                            refine lv_aload_n hx hb dL_refusesAny_161 rfl (lv_at hl 4 rfl) ?_
                            refine lv_iconst (v := nI 3) hx hb dL_refusesAny_162 (by decide) ?_
                            refine lv_iload_n hx hb dL_refusesAny_163 rfl (lv_at hl 5 rfl) ?_
                            refine lv_iconst (v := nI 2) hx hb dL_refusesAny_164 (by decide) ?_
                            refine lv_irem hx hb dL_refusesAny_165 (by decide) ?_
                            refine lv_eqi (pk_rem (by omega) (by omega) (by omega)) ?_
                            refine lv_if_ne (tgt := 173) hx hb dL_refusesAny_166 (by decide) (fun c_194 => ?_) (fun c_194 => ?_)
                            · skip
                              refine lv_bipush (v := nI 31) hx hb dL_refusesAny_173 (by decide) ?_
                              refine h_op (st := []) C hS hP hD hl.1 (k_set_bad (k := 3) (by decide) (nI 31) (by decide)) gL_refusesAny_X4_set rfl hd_set ⟨Nat.le_of_ble_eq_true rfl, Nat.le_of_ble_eq_true rfl⟩ rfl rfl (Nat.le_of_ble_eq_true rfl) dL_refusesAny_175 ⟨Nat.le_of_ble_eq_true rfl, Nat.le_of_ble_eq_true rfl⟩ (fun H locs hP hD hS => ?_)
                              refine lv_bipush (v := (-2)) hx hb dL_refusesAny_178 (by decide) ?_
                              refine lv_icmp_ne (tgt := 372) hx hb dL_refusesAny_180 (by decide) (fun c_195 => ?_) (fun c_195 => ?_)
                              · skip
                                exact absurd (by decide) c_195
                              · skip
                                refine lv_aload_n hx hb dL_refusesAny_183 rfl (lv_at hl 4 rfl) ?_
                                refine lv_iload_n hx hb dL_refusesAny_184 rfl (lv_at hl 3 rfl) ?_
                                refine lv_iconst (v := nI 0) hx hb dL_refusesAny_185 (by decide) ?_
                                refine h_op (st := []) C hS hP hD hl.1 (k_brim_out pu (nI 0) hpub) gL_refusesAny_X4_brim rfl hd_brim ⟨Nat.le_of_ble_eq_true rfl, Nat.le_of_ble_eq_true rfl⟩ rfl rfl (Nat.le_of_ble_eq_true rfl) dL_refusesAny_186 ⟨Nat.le_of_ble_eq_true rfl, Nat.le_of_ble_eq_true rfl⟩ (fun H locs hP hD hS => ?_)
                                refine lv_iconst (v := (-1)) hx hb dL_refusesAny_189 (by decide) ?_
                                refine lv_icmp_ne (tgt := 372) hx hb dL_refusesAny_190 (by decide) (fun c_196 => ?_) (fun c_196 => ?_)
                                · skip
                                  exact absurd (by decide) c_196
                                · skip
                                  refine lv_aload_n hx hb dL_refusesAny_193 rfl (lv_at hl 4 rfl) ?_
                                  refine lv_iload hx hb dL_refusesAny_194 (lv_at hl 1 rfl) ?_
                                  refine lv_iload_n hx hb dL_refusesAny_196 rfl (lv_at hl 5 rfl) ?_
                                  refine lv_iconst (v := nI 2) hx hb dL_refusesAny_197 (by decide) ?_
                                  refine lv_irem hx hb dL_refusesAny_198 (by decide) ?_
                                  refine lv_eqi (pk_rem (by omega) (by omega) (by omega)) ?_
                                  refine lv_if_ne (tgt := 206) hx hb dL_refusesAny_199 (by decide) (fun c_197 => ?_) (fun c_197 => ?_)
                                  · skip
                                    refine lv_bipush (v := nI 61) hx hb dL_refusesAny_206 (by decide) ?_
                                    refine h_op (st := []) C hS hP hD hl.1 (k_brim_bad (p := X % 12) (by omega) (nI 61) (by decide)) gL_refusesAny_X4_brim rfl hd_brim ⟨Nat.le_of_ble_eq_true rfl, Nat.le_of_ble_eq_true rfl⟩ rfl rfl (Nat.le_of_ble_eq_true rfl) dL_refusesAny_208 ⟨Nat.le_of_ble_eq_true rfl, Nat.le_of_ble_eq_true rfl⟩ (fun H locs hP hD hS => ?_)
                                    refine lv_bipush (v := (-2)) hx hb dL_refusesAny_211 (by decide) ?_
                                    refine lv_icmp_ne (tgt := 372) hx hb dL_refusesAny_213 (by decide) (fun c_198 => ?_) (fun c_198 => ?_)
                                    · skip
                                      exact absurd (by decide) c_198
                                    · skip
                                      refine lv_aload_n hx hb dL_refusesAny_216 rfl (lv_at hl 4 rfl) ?_
                                      refine lv_iload_n hx hb dL_refusesAny_217 rfl (lv_at hl 3 rfl) ?_
                                      refine h_op (st := []) C hS hP hD hl.1 (k_drain_out pu hpub) gL_refusesAny_X4_drain rfl hd_drain ⟨Nat.le_of_ble_eq_true rfl, Nat.le_of_ble_eq_true rfl⟩ rfl rfl (Nat.le_of_ble_eq_true rfl) dL_refusesAny_218 ⟨Nat.le_of_ble_eq_true rfl, Nat.le_of_ble_eq_true rfl⟩ (fun H locs hP hD hS => ?_)
                                      refine lv_iconst (v := (-1)) hx hb dL_refusesAny_221 (by decide) ?_
                                      refine lv_icmp_ne (tgt := 372) hx hb dL_refusesAny_222 (by decide) (fun c_199 => ?_) (fun c_199 => ?_)
                                      · skip
                                        exact absurd (by decide) c_199
                                      · skip
                                        refine lv_iload hx hb dL_refusesAny_225 (lv_at hl 0 rfl) ?_
                                        refine lv_if_eq (tgt := 253) hx hb dL_refusesAny_227 (by decide) (fun c_200 => ?_) (fun c_200 => ?_)
                                        · skip
                                          exact absurd c_200 (by decide)
                                        · skip
                                          refine lv_aload_n hx hb dL_refusesAny_230 rfl (lv_at hl 4 rfl) ?_
                                          refine lv_iload hx hb dL_refusesAny_231 (lv_at hl 1 rfl) ?_
                                          refine h_op (st := []) C hS hP hD hl.1 (k_drain_ducks (p := X % 12) (by omega) hd) gL_refusesAny_X4_drain rfl hd_drain ⟨Nat.le_of_ble_eq_true rfl, Nat.le_of_ble_eq_true rfl⟩ rfl rfl (Nat.le_of_ble_eq_true rfl) dL_refusesAny_233 ⟨Nat.le_of_ble_eq_true rfl, Nat.le_of_ble_eq_true rfl⟩ (fun H locs hP hD hS => ?_)
                                          refine lv_bipush (v := (-5)) hx hb dL_refusesAny_236 (by decide) ?_
                                          refine lv_icmp_ne (tgt := 372) hx hb dL_refusesAny_238 (by decide) (fun c_201 => ?_) (fun c_201 => ?_)
                                          · skip
                                            exact absurd (by decide) c_201
                                          · skip
                                            refine lv_aload_n hx hb dL_refusesAny_241 rfl (lv_at hl 4 rfl) ?_
                                            refine lv_iconst (v := nI 0) hx hb dL_refusesAny_242 (by decide) ?_
                                            refine lv_iload hx hb dL_refusesAny_243 (lv_at hl 1 rfl) ?_
                                            refine h_op (st := []) C hS hP hD hl.1 (k_permit_ducks (w := 0) (p := X % 12) (by omega) (by omega) hd) gL_refusesAny_X4_permit rfl hd_permit ⟨Nat.le_of_ble_eq_true rfl, Nat.le_of_ble_eq_true rfl⟩ rfl rfl (Nat.le_of_ble_eq_true rfl) dL_refusesAny_245 ⟨Nat.le_of_ble_eq_true rfl, Nat.le_of_ble_eq_true rfl⟩ (fun H locs hP hD hS => ?_)
                                            refine lv_bipush (v := (-5)) hx hb dL_refusesAny_248 (by decide) ?_
                                            refine lv_icmp_ne (tgt := 372) hx hb dL_refusesAny_250 (by decide) (fun c_202 => ?_) (fun c_202 => ?_)
                                            · skip
                                              exact absurd (by decide) c_202
                                            · skip
                                              refine lv_aload_n hx hb dL_refusesAny_253 rfl (lv_at hl 4 rfl) ?_
                                              refine lv_iload_n hx hb dL_refusesAny_254 rfl (lv_at hl 2 rfl) ?_
                                              refine lv_bipush (v := nI 9) hx hb dL_refusesAny_255 (by decide) ?_
                                              refine h_op (st := []) C hS hP hD hl.1 (k_shoes_out wk (nI 9) hwkb) gL_refusesAny_X4_shoes rfl hd_shoes ⟨Nat.le_of_ble_eq_true rfl, Nat.le_of_ble_eq_true rfl⟩ rfl rfl (Nat.le_of_ble_eq_true rfl) dL_refusesAny_257 ⟨Nat.le_of_ble_eq_true rfl, Nat.le_of_ble_eq_true rfl⟩ (fun H locs hP hD hS => ?_)
                                              refine lv_iconst (v := (-1)) hx hb dL_refusesAny_260 (by decide) ?_
                                              refine lv_icmp_ne (tgt := 372) hx hb dL_refusesAny_261 (by decide) (fun c_203 => ?_) (fun c_203 => ?_)
                                              · skip
                                                exact absurd (by decide) c_203
                                              · skip
                                                refine lv_aload_n hx hb dL_refusesAny_264 rfl (lv_at hl 4 rfl) ?_
                                                refine lv_iconst (v := nI 0) hx hb dL_refusesAny_265 (by decide) ?_
                                                refine lv_iload_n hx hb dL_refusesAny_266 rfl (lv_at hl 5 rfl) ?_
                                                refine lv_iconst (v := nI 2) hx hb dL_refusesAny_267 (by decide) ?_
                                                refine lv_irem hx hb dL_refusesAny_268 (by decide) ?_
                                                refine lv_eqi (pk_rem (by omega) (by omega) (by omega)) ?_
                                                refine lv_if_ne (tgt := 276) hx hb dL_refusesAny_269 (by decide) (fun c_204 => ?_) (fun c_204 => ?_)
                                                · skip
                                                  refine lv_iconst (v := nI 4) hx hb dL_refusesAny_276 (by decide) ?_
                                                  refine h_op (st := []) C hS hP hD hl.1 (k_shoes_bad (w := 0) (by omega) (nI 4) (by decide)) gL_refusesAny_X4_shoes rfl hd_shoes ⟨Nat.le_of_ble_eq_true rfl, Nat.le_of_ble_eq_true rfl⟩ rfl rfl (Nat.le_of_ble_eq_true rfl) dL_refusesAny_277 ⟨Nat.le_of_ble_eq_true rfl, Nat.le_of_ble_eq_true rfl⟩ (fun H locs hP hD hS => ?_)
                                                  refine lv_bipush (v := (-2)) hx hb dL_refusesAny_280 (by decide) ?_
                                                  refine lv_icmp_ne (tgt := 372) hx hb dL_refusesAny_282 (by decide) (fun c_205 => ?_) (fun c_205 => ?_)
                                                  · skip
                                                    exact absurd (by decide) c_205
                                                  · skip
                                                    refine lv_aload_n hx hb dL_refusesAny_285 rfl (lv_at hl 4 rfl) ?_
                                                    refine lv_iload_n hx hb dL_refusesAny_286 rfl (lv_at hl 2 rfl) ?_
                                                    refine lv_iconst (v := nI 0) hx hb dL_refusesAny_287 (by decide) ?_
                                                    refine h_op (st := []) C hS hP hD hl.1 (k_permit_outw wk (nI 0) hwkb) gL_refusesAny_X4_permit rfl hd_permit ⟨Nat.le_of_ble_eq_true rfl, Nat.le_of_ble_eq_true rfl⟩ rfl rfl (Nat.le_of_ble_eq_true rfl) dL_refusesAny_288 ⟨Nat.le_of_ble_eq_true rfl, Nat.le_of_ble_eq_true rfl⟩ (fun H locs hP hD hS => ?_)
                                                    refine lv_iconst (v := (-1)) hx hb dL_refusesAny_291 (by decide) ?_
                                                    refine lv_icmp_ne (tgt := 372) hx hb dL_refusesAny_292 (by decide) (fun c_206 => ?_) (fun c_206 => ?_)
                                                    · skip
                                                      exact absurd (by decide) c_206
                                                    · skip
                                                      refine lv_aload_n hx hb dL_refusesAny_295 rfl (lv_at hl 4 rfl) ?_
                                                      refine lv_iconst (v := nI 0) hx hb dL_refusesAny_296 (by decide) ?_
                                                      refine lv_iload_n hx hb dL_refusesAny_297 rfl (lv_at hl 3 rfl) ?_
                                                      refine h_op (st := []) C hS hP hD hl.1 (k_permit_outp (w := 0) (by omega) pu hpub) gL_refusesAny_X4_permit rfl hd_permit ⟨Nat.le_of_ble_eq_true rfl, Nat.le_of_ble_eq_true rfl⟩ rfl rfl (Nat.le_of_ble_eq_true rfl) dL_refusesAny_298 ⟨Nat.le_of_ble_eq_true rfl, Nat.le_of_ble_eq_true rfl⟩ (fun H locs hP hD hS => ?_)
                                                      refine lv_iconst (v := (-1)) hx hb dL_refusesAny_301 (by decide) ?_
                                                      refine lv_icmp_ne (tgt := 372) hx hb dL_refusesAny_302 (by decide) (fun c_207 => ?_) (fun c_207 => ?_)
                                                      · skip
                                                        exact absurd (by decide) c_207
                                                      · skip
                                                        refine lv_aload_n hx hb dL_refusesAny_305 rfl (lv_at hl 4 rfl) ?_
                                                        refine lv_iload_n hx hb dL_refusesAny_306 rfl (lv_at hl 2 rfl) ?_
                                                        refine lv_iconst (v := nI 0) hx hb dL_refusesAny_307 (by decide) ?_
                                                        refine lv_iconst (v := nI 0) hx hb dL_refusesAny_308 (by decide) ?_
                                                        refine h_op (st := []) C hS hP hD hl.1 (k_walk_outw wk (nI 0) (nI 0) hwkb) gL_refusesAny_X4_walk rfl hd_walk ⟨Nat.le_of_ble_eq_true rfl, Nat.le_of_ble_eq_true rfl⟩ rfl rfl (Nat.le_of_ble_eq_true rfl) dL_refusesAny_309 ⟨Nat.le_of_ble_eq_true rfl, Nat.le_of_ble_eq_true rfl⟩ (fun H locs hP hD hS => ?_)
                                                        refine lv_iconst (v := (-1)) hx hb dL_refusesAny_312 (by decide) ?_
                                                        refine lv_icmp_ne (tgt := 372) hx hb dL_refusesAny_313 (by decide) (fun c_208 => ?_) (fun c_208 => ?_)
                                                        · skip
                                                          exact absurd (by decide) c_208
                                                        · skip
                                                          refine lv_aload_n hx hb dL_refusesAny_316 rfl (lv_at hl 4 rfl) ?_
                                                          refine lv_iconst (v := nI 0) hx hb dL_refusesAny_317 (by decide) ?_
                                                          refine lv_iload_n hx hb dL_refusesAny_318 rfl (lv_at hl 3 rfl) ?_
                                                          refine lv_iconst (v := nI 0) hx hb dL_refusesAny_319 (by decide) ?_
                                                          refine h_op (st := []) C hS hP hD hl.1 (k_walk_outf (w := 0) (by omega) pu (nI 0) hpub) gL_refusesAny_X4_walk rfl hd_walk ⟨Nat.le_of_ble_eq_true rfl, Nat.le_of_ble_eq_true rfl⟩ rfl rfl (Nat.le_of_ble_eq_true rfl) dL_refusesAny_320 ⟨Nat.le_of_ble_eq_true rfl, Nat.le_of_ble_eq_true rfl⟩ (fun H locs hP hD hS => ?_)
                                                          refine lv_iconst (v := (-1)) hx hb dL_refusesAny_323 (by decide) ?_
                                                          refine lv_icmp_ne (tgt := 372) hx hb dL_refusesAny_324 (by decide) (fun c_209 => ?_) (fun c_209 => ?_)
                                                          · skip
                                                            exact absurd (by decide) c_209
                                                          · skip
                                                            refine lv_aload_n hx hb dL_refusesAny_327 rfl (lv_at hl 4 rfl) ?_
                                                            refine lv_iconst (v := nI 0) hx hb dL_refusesAny_328 (by decide) ?_
                                                            refine lv_iconst (v := nI 0) hx hb dL_refusesAny_329 (by decide) ?_
                                                            refine lv_iload_n hx hb dL_refusesAny_330 rfl (lv_at hl 3 rfl) ?_
                                                            refine h_op (st := []) C hS hP hD hl.1 (k_walk_outt (w := 0) (f := 0) (by omega) (by omega) pu hpub) gL_refusesAny_X4_walk rfl hd_walk ⟨Nat.le_of_ble_eq_true rfl, Nat.le_of_ble_eq_true rfl⟩ rfl rfl (Nat.le_of_ble_eq_true rfl) dL_refusesAny_331 ⟨Nat.le_of_ble_eq_true rfl, Nat.le_of_ble_eq_true rfl⟩ (fun H locs hP hD hS => ?_)
                                                            refine lv_iconst (v := (-1)) hx hb dL_refusesAny_334 (by decide) ?_
                                                            refine lv_icmp_ne (tgt := 372) hx hb dL_refusesAny_335 (by decide) (fun c_210 => ?_) (fun c_210 => ?_)
                                                            · skip
                                                              exact absurd (by decide) c_210
                                                            · skip
                                                              refine lv_aload_n hx hb dL_refusesAny_338 rfl (lv_at hl 4 rfl) ?_
                                                              refine lv_iload_n hx hb dL_refusesAny_339 rfl (lv_at hl 2 rfl) ?_
                                                              refine h_op (st := []) C hS hP hD hl.1 (k_pay_out wk hwkb) gL_refusesAny_X4_pay rfl hd_pay ⟨Nat.le_of_ble_eq_true rfl, Nat.le_of_ble_eq_true rfl⟩ rfl rfl (Nat.le_of_ble_eq_true rfl) dL_refusesAny_340 ⟨Nat.le_of_ble_eq_true rfl, Nat.le_of_ble_eq_true rfl⟩ (fun H locs hP hD hS => ?_)
                                                              refine lv_iconst (v := (-1)) hx hb dL_refusesAny_343 (by decide) ?_
                                                              refine lv_icmp_ne (tgt := 372) hx hb dL_refusesAny_344 (by decide) (fun c_211 => ?_) (fun c_211 => ?_)
                                                              · skip
                                                                exact absurd (by decide) c_211
                                                              · skip
                                                                refine lv_aload_n hx hb dL_refusesAny_347 rfl (lv_at hl 4 rfl) ?_
                                                                refine lv_iload_n hx hb dL_refusesAny_348 rfl (lv_at hl 5 rfl) ?_
                                                                refine lv_iconst (v := nI 2) hx hb dL_refusesAny_349 (by decide) ?_
                                                                refine lv_irem hx hb dL_refusesAny_350 (by decide) ?_
                                                                refine lv_eqi (pk_rem (by omega) (by omega) (by omega)) ?_
                                                                refine lv_if_ne (tgt := 358) hx hb dL_refusesAny_351 (by decide) (fun c_212 => ?_) (fun c_212 => ?_)
                                                                · skip
                                                                  refine lv_bipush (v := nI 12) hx hb dL_refusesAny_358 (by decide) ?_
                                                                  refine h_op (st := []) C hS hP hD hl.1 (k_pass_out (nI 12) (by decide)) gL_refusesAny_X4_pass rfl hd_pass ⟨Nat.le_of_ble_eq_true rfl, Nat.le_of_ble_eq_true rfl⟩ rfl rfl (Nat.le_of_ble_eq_true rfl) dL_refusesAny_360 ⟨Nat.le_of_ble_eq_true rfl, Nat.le_of_ble_eq_true rfl⟩ (fun H locs hP hD hS => ?_)
                                                                  refine lv_bipush (v := (-2)) hx hb dL_refusesAny_363 (by decide) ?_
                                                                  refine lv_icmp_ne (tgt := 372) hx hb dL_refusesAny_365 (by decide) (fun c_213 => ?_) (fun c_213 => ?_)
                                                                  · skip
                                                                    exact absurd (by decide) c_213
                                                                  · skip
                                                                    refine lv_iconst (v := nI 1) hx hb dL_refusesAny_368 (by decide) ?_
                                                                    refine lv_goto (tgt := 373) hx hb dL_refusesAny_369 (by decide) ?_
                                                                    refine lv_istore (lv' := [(6, .int (nI 1)), (5, .int (nI 1)), (4, .int (nI (X % 12))), (3, .int wk), (2, .int pu), (0, .ref B.1.1), (1, .int (nI X))]) hx hb dL_refusesAny_373 hl (by decide) rfl (fun ls hl => ?_)
                                                                    refine lv_iload hx hb dL_refusesAny_375 (lv_at hl 0 rfl) ?_
                                                                    refine lv_if_eq (tgt := 664) hx hb dL_refusesAny_377 (by decide) (fun c_214 => ?_) (fun c_214 => ?_)
                                                                    · skip
                                                                      exact absurd c_214 (by decide)
                                                                    · skip
                                                                      refine lv_aload_n hx hb dL_refusesAny_380 rfl (lv_at hl 5 rfl) ?_
                                                                      refine lv_iload_n hx hb dL_refusesAny_381 rfl (lv_at hl 4 rfl) ?_
                                                                      refine lv_bipush (v := nI 99) hx hb dL_refusesAny_382 (by decide) ?_
                                                                      refine h_op (st := []) C hS hP hD hl.1 (k_puddle_out pu (nI 99) hpub) gL_refusesAny_X4_puddle rfl hd_puddle ⟨Nat.le_of_ble_eq_true rfl, Nat.le_of_ble_eq_true rfl⟩ rfl rfl (Nat.le_of_ble_eq_true rfl) dL_refusesAny_384 ⟨Nat.le_of_ble_eq_true rfl, Nat.le_of_ble_eq_true rfl⟩ (fun H locs hP hD hS => ?_)
                                                                      refine lv_iconst (v := (-1)) hx hb dL_refusesAny_387 (by decide) ?_
                                                                      refine lv_icmp_ne (tgt := 664) hx hb dL_refusesAny_388 (by decide) (fun c_215 => ?_) (fun c_215 => ?_)
                                                                      · skip
                                                                        exact absurd (by decide) c_215
                                                                      · skip
                                                                        refine lv_aload_n hx hb dL_refusesAny_391 rfl (lv_at hl 5 rfl) ?_
                                                                        refine lv_iload hx hb dL_refusesAny_392 (lv_at hl 2 rfl) ?_
                                                                        refine lv_iload_n hx hb dL_refusesAny_394 rfl (lv_at hl 6 rfl) ?_
                                                                        refine lv_iconst (v := nI 2) hx hb dL_refusesAny_395 (by decide) ?_
                                                                        refine lv_irem hx hb dL_refusesAny_396 (by decide) ?_
                                                                        refine lv_eqi (pk_rem (by omega) (by omega) (by omega)) ?_
                                                                        refine lv_if_ne (tgt := 404) hx hb dL_refusesAny_397 (by decide) (fun c_216 => ?_) (fun c_216 => ?_)
                                                                        · skip
                                                                          refine lv_bipush (v := nI 7) hx hb dL_refusesAny_404 (by decide) ?_
                                                                          refine h_op (st := []) C hS hP hD hl.1 (k_puddle_bad (p := X % 12) (by omega) (nI 7) (by decide)) gL_refusesAny_X4_puddle rfl hd_puddle ⟨Nat.le_of_ble_eq_true rfl, Nat.le_of_ble_eq_true rfl⟩ rfl rfl (Nat.le_of_ble_eq_true rfl) dL_refusesAny_406 ⟨Nat.le_of_ble_eq_true rfl, Nat.le_of_ble_eq_true rfl⟩ (fun H locs hP hD hS => ?_)
                                                                          refine lv_bipush (v := (-2)) hx hb dL_refusesAny_409 (by decide) ?_
                                                                          refine lv_icmp_ne (tgt := 664) hx hb dL_refusesAny_411 (by decide) (fun c_217 => ?_) (fun c_217 => ?_)
                                                                          · skip
                                                                            exact absurd (by decide) c_217
                                                                          · skip
                                                                            refine lv_aload_n hx hb dL_refusesAny_414 rfl (lv_at hl 5 rfl) ?_
                                                                            refine lv_iload_n hx hb dL_refusesAny_415 rfl (lv_at hl 3 rfl) ?_
                                                                            refine lv_bipush (v := nI 99) hx hb dL_refusesAny_416 (by decide) ?_
                                                                            refine h_op (st := []) C hS hP hD hl.1 (k_walker_out wk (nI 99) hwkb) gL_refusesAny_X4_walker rfl hd_walker ⟨Nat.le_of_ble_eq_true rfl, Nat.le_of_ble_eq_true rfl⟩ rfl rfl (Nat.le_of_ble_eq_true rfl) dL_refusesAny_418 ⟨Nat.le_of_ble_eq_true rfl, Nat.le_of_ble_eq_true rfl⟩ (fun H locs hP hD hS => ?_)
                                                                            refine lv_iconst (v := (-1)) hx hb dL_refusesAny_421 (by decide) ?_
                                                                            refine lv_icmp_ne (tgt := 664) hx hb dL_refusesAny_422 (by decide) (fun c_218 => ?_) (fun c_218 => ?_)
                                                                            · skip
                                                                              exact absurd (by decide) c_218
                                                                            · skip
                                                                              refine lv_aload_n hx hb dL_refusesAny_425 rfl (lv_at hl 5 rfl) ?_
                                                                              refine lv_iconst (v := nI 0) hx hb dL_refusesAny_426 (by decide) ?_
                                                                              refine lv_iload_n hx hb dL_refusesAny_427 rfl (lv_at hl 6 rfl) ?_
                                                                              refine lv_iconst (v := nI 2) hx hb dL_refusesAny_428 (by decide) ?_
                                                                              refine lv_irem hx hb dL_refusesAny_429 (by decide) ?_
                                                                              refine lv_eqi (pk_rem (by omega) (by omega) (by omega)) ?_
                                                                              refine lv_if_ne (tgt := 437) hx hb dL_refusesAny_430 (by decide) (fun c_219 => ?_) (fun c_219 => ?_)
                                                                              · skip
                                                                                refine lv_bipush (v := nI 6) hx hb dL_refusesAny_437 (by decide) ?_
                                                                                refine h_op (st := []) C hS hP hD hl.1 (k_walker_bad (w := 0) (by omega) (nI 6) (by decide)) gL_refusesAny_X4_walker rfl hd_walker ⟨Nat.le_of_ble_eq_true rfl, Nat.le_of_ble_eq_true rfl⟩ rfl rfl (Nat.le_of_ble_eq_true rfl) dL_refusesAny_439 ⟨Nat.le_of_ble_eq_true rfl, Nat.le_of_ble_eq_true rfl⟩ (fun H locs hP hD hS => ?_)
                                                                                refine lv_bipush (v := (-2)) hx hb dL_refusesAny_442 (by decide) ?_
                                                                                refine lv_icmp_ne (tgt := 664) hx hb dL_refusesAny_444 (by decide) (fun c_220 => ?_) (fun c_220 => ?_)
                                                                                · skip
                                                                                  exact absurd (by decide) c_220
                                                                                · skip
                                                                                  refine lv_aload_n hx hb dL_refusesAny_447 rfl (lv_at hl 5 rfl) ?_
                                                                                  refine lv_iload_n hx hb dL_refusesAny_448 rfl (lv_at hl 3 rfl) ?_
                                                                                  refine lv_iconst (v := nI 0) hx hb dL_refusesAny_449 (by decide) ?_
                                                                                  refine h_op (st := []) C hS hP hD hl.1 (k_why_outw wk (nI 0) hwkb) gL_refusesAny_X4_why rfl hd_why ⟨Nat.le_of_ble_eq_true rfl, Nat.le_of_ble_eq_true rfl⟩ rfl rfl (Nat.le_of_ble_eq_true rfl) dL_refusesAny_450 ⟨Nat.le_of_ble_eq_true rfl, Nat.le_of_ble_eq_true rfl⟩ (fun H locs hP hD hS => ?_)
                                                                                  refine lv_iconst (v := (-1)) hx hb dL_refusesAny_453 (by decide) ?_
                                                                                  refine lv_icmp_ne (tgt := 664) hx hb dL_refusesAny_454 (by decide) (fun c_221 => ?_) (fun c_221 => ?_)
                                                                                  · skip
                                                                                    exact absurd (by decide) c_221
                                                                                  · skip
                                                                                    refine lv_aload_n hx hb dL_refusesAny_457 rfl (lv_at hl 5 rfl) ?_
                                                                                    refine lv_iconst (v := nI 0) hx hb dL_refusesAny_458 (by decide) ?_
                                                                                    refine lv_iload_n hx hb dL_refusesAny_459 rfl (lv_at hl 4 rfl) ?_
                                                                                    refine h_op (st := []) C hS hP hD hl.1 (k_why_outp (w := 0) (by omega) pu hpub) gL_refusesAny_X4_why rfl hd_why ⟨Nat.le_of_ble_eq_true rfl, Nat.le_of_ble_eq_true rfl⟩ rfl rfl (Nat.le_of_ble_eq_true rfl) dL_refusesAny_460 ⟨Nat.le_of_ble_eq_true rfl, Nat.le_of_ble_eq_true rfl⟩ (fun H locs hP hD hS => ?_)
                                                                                    refine lv_iconst (v := (-1)) hx hb dL_refusesAny_463 (by decide) ?_
                                                                                    refine lv_icmp_ne (tgt := 664) hx hb dL_refusesAny_464 (by decide) (fun c_222 => ?_) (fun c_222 => ?_)
                                                                                    · skip
                                                                                      exact absurd (by decide) c_222
                                                                                    · skip
                                                                                      refine lv_aload_n hx hb dL_refusesAny_467 rfl (lv_at hl 5 rfl) ?_
                                                                                      refine lv_iload_n hx hb dL_refusesAny_468 rfl (lv_at hl 3 rfl) ?_
                                                                                      refine lv_iconst (v := nI 0) hx hb dL_refusesAny_469 (by decide) ?_
                                                                                      refine h_op (st := []) C hS hP hD hl.1 (k_holds_outw wk (nI 0) hwkb) gL_refusesAny_X4_holds rfl hd_holds ⟨Nat.le_of_ble_eq_true rfl, Nat.le_of_ble_eq_true rfl⟩ rfl rfl (Nat.le_of_ble_eq_true rfl) dL_refusesAny_470 ⟨Nat.le_of_ble_eq_true rfl, Nat.le_of_ble_eq_true rfl⟩ (fun H locs hP hD hS => ?_)
                                                                                      refine lv_iconst (v := (-1)) hx hb dL_refusesAny_473 (by decide) ?_
                                                                                      refine lv_icmp_ne (tgt := 664) hx hb dL_refusesAny_474 (by decide) (fun c_223 => ?_) (fun c_223 => ?_)
                                                                                      · skip
                                                                                        exact absurd (by decide) c_223
                                                                                      · skip
                                                                                        refine lv_aload_n hx hb dL_refusesAny_477 rfl (lv_at hl 5 rfl) ?_
                                                                                        refine lv_iconst (v := nI 0) hx hb dL_refusesAny_478 (by decide) ?_
                                                                                        refine lv_iload_n hx hb dL_refusesAny_479 rfl (lv_at hl 4 rfl) ?_
                                                                                        refine h_op (st := []) C hS hP hD hl.1 (k_holds_outp (w := 0) (by omega) pu hpub) gL_refusesAny_X4_holds rfl hd_holds ⟨Nat.le_of_ble_eq_true rfl, Nat.le_of_ble_eq_true rfl⟩ rfl rfl (Nat.le_of_ble_eq_true rfl) dL_refusesAny_480 ⟨Nat.le_of_ble_eq_true rfl, Nat.le_of_ble_eq_true rfl⟩ (fun H locs hP hD hS => ?_)
                                                                                        refine lv_iconst (v := (-1)) hx hb dL_refusesAny_483 (by decide) ?_
                                                                                        refine lv_icmp_ne (tgt := 664) hx hb dL_refusesAny_484 (by decide) (fun c_224 => ?_) (fun c_224 => ?_)
                                                                                        · skip
                                                                                          exact absurd (by decide) c_224
                                                                                        · skip
                                                                                          refine lv_aload_n hx hb dL_refusesAny_487 rfl (lv_at hl 5 rfl) ?_
                                                                                          refine lv_iload_n hx hb dL_refusesAny_488 rfl (lv_at hl 6 rfl) ?_
                                                                                          refine lv_iconst (v := nI 2) hx hb dL_refusesAny_489 (by decide) ?_
                                                                                          refine lv_irem hx hb dL_refusesAny_490 (by decide) ?_
                                                                                          refine lv_eqi (pk_rem (by omega) (by omega) (by omega)) ?_
                                                                                          refine lv_if_ne (tgt := 498) hx hb dL_refusesAny_491 (by decide) (fun c_225 => ?_) (fun c_225 => ?_)
                                                                                          · skip
                                                                                            refine lv_bipush (v := nI 16) hx hb dL_refusesAny_498 (by decide) ?_
                                                                                            refine h_op (st := []) C hS hP hD hl.1 (k_count_bad (nI 16) (by decide)) gL_refusesAny_X4_count rfl hd_count ⟨Nat.le_of_ble_eq_true rfl, Nat.le_of_ble_eq_true rfl⟩ rfl rfl (Nat.le_of_ble_eq_true rfl) dL_refusesAny_500 ⟨Nat.le_of_ble_eq_true rfl, Nat.le_of_ble_eq_true rfl⟩ (fun H locs hP hD hS => ?_)
                                                                                            refine lv_bipush (v := (-2)) hx hb dL_refusesAny_503 (by decide) ?_
                                                                                            refine lv_icmp_ne (tgt := 664) hx hb dL_refusesAny_505 (by decide) (fun c_226 => ?_) (fun c_226 => ?_)
                                                                                            · skip
                                                                                              exact absurd (by decide) c_226
                                                                                            · skip
                                                                                              refine lv_aload_n hx hb dL_refusesAny_508 rfl (lv_at hl 5 rfl) ?_
                                                                                              refine lv_iload_n hx hb dL_refusesAny_509 rfl (lv_at hl 3 rfl) ?_
                                                                                              refine lv_iconst (v := nI 0) hx hb dL_refusesAny_510 (by decide) ?_
                                                                                              refine lv_iconst (v := nI 0) hx hb dL_refusesAny_511 (by decide) ?_
                                                                                              refine lv_bipush (v := nI 9) hx hb dL_refusesAny_512 (by decide) ?_
                                                                                              refine h_op (st := []) C hS hP hD hl.1 (k_cost_outw wk (nI 0) (nI 0) (nI 9) hwkb) gL_refusesAny_X4_cost rfl hd_cost ⟨Nat.le_of_ble_eq_true rfl, Nat.le_of_ble_eq_true rfl⟩ rfl rfl (Nat.le_of_ble_eq_true rfl) dL_refusesAny_514 ⟨Nat.le_of_ble_eq_true rfl, Nat.le_of_ble_eq_true rfl⟩ (fun H locs hP hD hS => ?_)
                                                                                              refine lv_iconst (v := (-1)) hx hb dL_refusesAny_517 (by decide) ?_
                                                                                              refine lv_icmp_ne (tgt := 664) hx hb dL_refusesAny_518 (by decide) (fun c_227 => ?_) (fun c_227 => ?_)
                                                                                              · skip
                                                                                                exact absurd (by decide) c_227
                                                                                              · skip
                                                                                                refine lv_aload_n hx hb dL_refusesAny_521 rfl (lv_at hl 5 rfl) ?_
                                                                                                refine lv_iconst (v := nI 0) hx hb dL_refusesAny_522 (by decide) ?_
                                                                                                refine lv_iload_n hx hb dL_refusesAny_523 rfl (lv_at hl 4 rfl) ?_
                                                                                                refine lv_iconst (v := nI 0) hx hb dL_refusesAny_524 (by decide) ?_
                                                                                                refine lv_bipush (v := nI 9) hx hb dL_refusesAny_525 (by decide) ?_
                                                                                                refine h_op (st := []) C hS hP hD hl.1 (k_cost_outf (w := 0) (by omega) pu (nI 0) (nI 9) hpub) gL_refusesAny_X4_cost rfl hd_cost ⟨Nat.le_of_ble_eq_true rfl, Nat.le_of_ble_eq_true rfl⟩ rfl rfl (Nat.le_of_ble_eq_true rfl) dL_refusesAny_527 ⟨Nat.le_of_ble_eq_true rfl, Nat.le_of_ble_eq_true rfl⟩ (fun H locs hP hD hS => ?_)
                                                                                                refine lv_iconst (v := (-1)) hx hb dL_refusesAny_530 (by decide) ?_
                                                                                                refine lv_icmp_ne (tgt := 664) hx hb dL_refusesAny_531 (by decide) (fun c_228 => ?_) (fun c_228 => ?_)
                                                                                                · skip
                                                                                                  exact absurd (by decide) c_228
                                                                                                · skip
                                                                                                  refine lv_aload_n hx hb dL_refusesAny_534 rfl (lv_at hl 5 rfl) ?_
                                                                                                  refine lv_iconst (v := nI 0) hx hb dL_refusesAny_535 (by decide) ?_
                                                                                                  refine lv_iconst (v := nI 0) hx hb dL_refusesAny_536 (by decide) ?_
                                                                                                  refine lv_iload_n hx hb dL_refusesAny_537 rfl (lv_at hl 4 rfl) ?_
                                                                                                  refine lv_bipush (v := nI 9) hx hb dL_refusesAny_538 (by decide) ?_
                                                                                                  refine h_op (st := []) C hS hP hD hl.1 (k_cost_outt (w := 0) (f := 0) (by omega) (by omega) pu (nI 9) hpub) gL_refusesAny_X4_cost rfl hd_cost ⟨Nat.le_of_ble_eq_true rfl, Nat.le_of_ble_eq_true rfl⟩ rfl rfl (Nat.le_of_ble_eq_true rfl) dL_refusesAny_540 ⟨Nat.le_of_ble_eq_true rfl, Nat.le_of_ble_eq_true rfl⟩ (fun H locs hP hD hS => ?_)
                                                                                                  refine lv_iconst (v := (-1)) hx hb dL_refusesAny_543 (by decide) ?_
                                                                                                  refine lv_icmp_ne (tgt := 664) hx hb dL_refusesAny_544 (by decide) (fun c_229 => ?_) (fun c_229 => ?_)
                                                                                                  · skip
                                                                                                    exact absurd (by decide) c_229
                                                                                                  · skip
                                                                                                    refine lv_aload_n hx hb dL_refusesAny_547 rfl (lv_at hl 5 rfl) ?_
                                                                                                    refine lv_iconst (v := nI 0) hx hb dL_refusesAny_548 (by decide) ?_
                                                                                                    refine lv_iconst (v := nI 0) hx hb dL_refusesAny_549 (by decide) ?_
                                                                                                    refine lv_iconst (v := nI 0) hx hb dL_refusesAny_550 (by decide) ?_
                                                                                                    refine lv_iload_n hx hb dL_refusesAny_551 rfl (lv_at hl 6 rfl) ?_
                                                                                                    refine lv_iconst (v := nI 2) hx hb dL_refusesAny_552 (by decide) ?_
                                                                                                    refine lv_irem hx hb dL_refusesAny_553 (by decide) ?_
                                                                                                    refine lv_eqi (pk_rem (by omega) (by omega) (by omega)) ?_
                                                                                                    refine lv_if_ne (tgt := 561) hx hb dL_refusesAny_554 (by decide) (fun c_230 => ?_) (fun c_230 => ?_)
                                                                                                    · skip
                                                                                                      refine lv_iconst (v := nI 2) hx hb dL_refusesAny_561 (by decide) ?_
                                                                                                      refine h_op (st := []) C hS hP hD hl.1 (k_cost_bad (w := 0) (f := 0) (t := 0) (by omega) (by omega) (by omega) (nI 2) (by decide) (by decide)) gL_refusesAny_X4_cost rfl hd_cost ⟨Nat.le_of_ble_eq_true rfl, Nat.le_of_ble_eq_true rfl⟩ rfl rfl (Nat.le_of_ble_eq_true rfl) dL_refusesAny_562 ⟨Nat.le_of_ble_eq_true rfl, Nat.le_of_ble_eq_true rfl⟩ (fun H locs hP hD hS => ?_)
                                                                                                      refine lv_bipush (v := (-2)) hx hb dL_refusesAny_565 (by decide) ?_
                                                                                                      refine lv_icmp_ne (tgt := 664) hx hb dL_refusesAny_567 (by decide) (fun c_231 => ?_) (fun c_231 => ?_)
                                                                                                      · skip
                                                                                                        exact absurd (by decide) c_231
                                                                                                      · skip
                                                                                                        refine lv_aload_n hx hb dL_refusesAny_570 rfl (lv_at hl 5 rfl) ?_
                                                                                                        refine lv_iload_n hx hb dL_refusesAny_571 rfl (lv_at hl 4 rfl) ?_
                                                                                                        refine h_op (st := []) C hS hP hD hl.1 (k_untilDry_out pu hpub) gL_refusesAny_X4_untilDry rfl hd_untilDry ⟨Nat.le_of_ble_eq_true rfl, Nat.le_of_ble_eq_true rfl⟩ rfl rfl (Nat.le_of_ble_eq_true rfl) dL_refusesAny_572 ⟨Nat.le_of_ble_eq_true rfl, Nat.le_of_ble_eq_true rfl⟩ (fun H locs hP hD hS => ?_)
                                                                                                        refine lv_iconst (v := (-1)) hx hb dL_refusesAny_575 (by decide) ?_
                                                                                                        refine lv_icmp_ne (tgt := 664) hx hb dL_refusesAny_576 (by decide) (fun c_232 => ?_) (fun c_232 => ?_)
                                                                                                        · skip
                                                                                                          exact absurd (by decide) c_232
                                                                                                        · skip
                                                                                                          refine lv_aload_n hx hb dL_refusesAny_579 rfl (lv_at hl 5 rfl) ?_
                                                                                                          refine lv_iload_n hx hb dL_refusesAny_580 rfl (lv_at hl 3 rfl) ?_
                                                                                                          refine h_op (st := []) C hS hP hD hl.1 (k_leastShoes_out wk hwkb) gL_refusesAny_X4_leastShoes rfl hd_leastShoes ⟨Nat.le_of_ble_eq_true rfl, Nat.le_of_ble_eq_true rfl⟩ rfl rfl (Nat.le_of_ble_eq_true rfl) dL_refusesAny_581 ⟨Nat.le_of_ble_eq_true rfl, Nat.le_of_ble_eq_true rfl⟩ (fun H locs hP hD hS => ?_)
                                                                                                          refine lv_iconst (v := (-1)) hx hb dL_refusesAny_584 (by decide) ?_
                                                                                                          refine lv_icmp_ne (tgt := 664) hx hb dL_refusesAny_585 (by decide) (fun c_233 => ?_) (fun c_233 => ?_)
                                                                                                          · skip
                                                                                                            exact absurd (by decide) c_233
                                                                                                          · skip
                                                                                                            refine lv_aload_n hx hb dL_refusesAny_588 rfl (lv_at hl 5 rfl) ?_
                                                                                                            refine lv_iload_n hx hb dL_refusesAny_589 rfl (lv_at hl 3 rfl) ?_
                                                                                                            refine lv_bipush (v := nI 9) hx hb dL_refusesAny_590 (by decide) ?_
                                                                                                            refine h_op (st := []) C hS hP hD hl.1 (k_longestWalk_out wk (nI 9) hwkb) gL_refusesAny_X4_longestWalk rfl hd_longestWalk ⟨Nat.le_of_ble_eq_true rfl, Nat.le_of_ble_eq_true rfl⟩ rfl rfl (Nat.le_of_ble_eq_true rfl) dL_refusesAny_592 ⟨Nat.le_of_ble_eq_true rfl, Nat.le_of_ble_eq_true rfl⟩ (fun H locs hP hD hS => ?_)
                                                                                                            refine lv_iconst (v := (-1)) hx hb dL_refusesAny_595 (by decide) ?_
                                                                                                            refine lv_icmp_ne (tgt := 664) hx hb dL_refusesAny_596 (by decide) (fun c_234 => ?_) (fun c_234 => ?_)
                                                                                                            · skip
                                                                                                              exact absurd (by decide) c_234
                                                                                                            · skip
                                                                                                              refine lv_aload_n hx hb dL_refusesAny_599 rfl (lv_at hl 5 rfl) ?_
                                                                                                              refine lv_iconst (v := nI 0) hx hb dL_refusesAny_600 (by decide) ?_
                                                                                                              refine lv_iload_n hx hb dL_refusesAny_601 rfl (lv_at hl 6 rfl) ?_
                                                                                                              refine lv_iconst (v := nI 2) hx hb dL_refusesAny_602 (by decide) ?_
                                                                                                              refine lv_irem hx hb dL_refusesAny_603 (by decide) ?_
                                                                                                              refine lv_eqi (pk_rem (by omega) (by omega) (by omega)) ?_
                                                                                                              refine lv_if_ne (tgt := 611) hx hb dL_refusesAny_604 (by decide) (fun c_235 => ?_) (fun c_235 => ?_)
                                                                                                              · skip
                                                                                                                refine lv_iconst (v := nI 2) hx hb dL_refusesAny_611 (by decide) ?_
                                                                                                                refine h_op (st := []) C hS hP hD hl.1 (k_longestWalk_bad (w := 0) (by omega) (nI 2) (by decide) (by decide)) gL_refusesAny_X4_longestWalk rfl hd_longestWalk ⟨Nat.le_of_ble_eq_true rfl, Nat.le_of_ble_eq_true rfl⟩ rfl rfl (Nat.le_of_ble_eq_true rfl) dL_refusesAny_612 ⟨Nat.le_of_ble_eq_true rfl, Nat.le_of_ble_eq_true rfl⟩ (fun H locs hP hD hS => ?_)
                                                                                                                refine lv_bipush (v := (-2)) hx hb dL_refusesAny_615 (by decide) ?_
                                                                                                                refine lv_icmp_ne (tgt := 664) hx hb dL_refusesAny_617 (by decide) (fun c_236 => ?_) (fun c_236 => ?_)
                                                                                                                · skip
                                                                                                                  exact absurd (by decide) c_236
                                                                                                                · skip
                                                                                                                  refine lv_aload_n hx hb dL_refusesAny_620 rfl (lv_at hl 5 rfl) ?_
                                                                                                                  refine lv_iload_n hx hb dL_refusesAny_621 rfl (lv_at hl 6 rfl) ?_
                                                                                                                  refine lv_iconst (v := nI 2) hx hb dL_refusesAny_622 (by decide) ?_
                                                                                                                  refine lv_irem hx hb dL_refusesAny_623 (by decide) ?_
                                                                                                                  refine lv_eqi (pk_rem (by omega) (by omega) (by omega)) ?_
                                                                                                                  refine lv_if_ne (tgt := 631) hx hb dL_refusesAny_624 (by decide) (fun c_237 => ?_) (fun c_237 => ?_)
                                                                                                                  · skip
                                                                                                                    refine lv_iconst (v := nI 2) hx hb dL_refusesAny_631 (by decide) ?_
                                                                                                                    refine h_op (st := []) C hS hP hD hl.1 (k_save_out (nI 2) (by decide)) gL_refusesAny_X4_save rfl hd_save ⟨Nat.le_of_ble_eq_true rfl, Nat.le_of_ble_eq_true rfl⟩ rfl rfl (Nat.le_of_ble_eq_true rfl) dL_refusesAny_632 ⟨Nat.le_of_ble_eq_true rfl, Nat.le_of_ble_eq_true rfl⟩ (fun H locs hP hD hS => ?_)
                                                                                                                    refine lv_bipush (v := (-2)) hx hb dL_refusesAny_635 (by decide) ?_
                                                                                                                    refine lv_icmp_ne (tgt := 664) hx hb dL_refusesAny_637 (by decide) (fun c_238 => ?_) (fun c_238 => ?_)
                                                                                                                    · skip
                                                                                                                      exact absurd (by decide) c_238
                                                                                                                    · skip
                                                                                                                      refine lv_aload_n hx hb dL_refusesAny_640 rfl (lv_at hl 5 rfl) ?_
                                                                                                                      refine lv_iload_n hx hb dL_refusesAny_641 rfl (lv_at hl 6 rfl) ?_
                                                                                                                      refine lv_iconst (v := nI 2) hx hb dL_refusesAny_642 (by decide) ?_
                                                                                                                      refine lv_irem hx hb dL_refusesAny_643 (by decide) ?_
                                                                                                                      refine lv_eqi (pk_rem (by omega) (by omega) (by omega)) ?_
                                                                                                                      refine lv_if_ne (tgt := 651) hx hb dL_refusesAny_644 (by decide) (fun c_239 => ?_) (fun c_239 => ?_)
                                                                                                                      · skip
                                                                                                                        refine lv_iconst (v := nI 2) hx hb dL_refusesAny_651 (by decide) ?_
                                                                                                                        refine h_op (st := []) C hS hP hD hl.1 (k_restore_out (nI 2) (by decide)) gL_refusesAny_X4_restore rfl hd_restore ⟨Nat.le_of_ble_eq_true rfl, Nat.le_of_ble_eq_true rfl⟩ rfl rfl (Nat.le_of_ble_eq_true rfl) dL_refusesAny_652 ⟨Nat.le_of_ble_eq_true rfl, Nat.le_of_ble_eq_true rfl⟩ (fun H locs hP hD hS => ?_)
                                                                                                                        refine lv_bipush (v := (-2)) hx hb dL_refusesAny_655 (by decide) ?_
                                                                                                                        refine lv_icmp_ne (tgt := 664) hx hb dL_refusesAny_657 (by decide) (fun c_240 => ?_) (fun c_240 => ?_)
                                                                                                                        · skip
                                                                                                                          exact absurd (by decide) c_240
                                                                                                                        · skip
                                                                                                                          refine lv_iconst (v := nI 1) hx hb dL_refusesAny_660 (by decide) ?_
                                                                                                                          refine lv_goto (tgt := 665) hx hb dL_refusesAny_661 (by decide) ?_
                                                                                                                          refine lv_istore (lv' := [(6, .int (nI 1)), (5, .int (nI 1)), (4, .int (nI (X % 12))), (3, .int wk), (2, .int pu), (0, .ref B.1.1), (1, .int (nI X))]) hx hb dL_refusesAny_665 hl (by decide) rfl (fun ls hl => ?_)
                                                                                                                          refine lv_iload hx hb dL_refusesAny_667 (lv_at hl 0 rfl) ?_
                                                                                                                          refine lv_if_eq (tgt := 699) hx hb dL_refusesAny_669 (by decide) (fun c_241 => ?_) (fun c_241 => ?_)
                                                                                                                          · skip
                                                                                                                            exact absurd c_241 (by decide)
                                                                                                                          · skip
                                                                                                                            refine lv_aload_n hx hb dL_refusesAny_672 rfl (lv_at hl 5 rfl) ?_
                                                                                                                            refine h_op (st := []) C hS hP hD hl.1 (k_wipe h0) gL_refusesAny_X4_wipe rfl hd_wipe ⟨Nat.le_of_ble_eq_true rfl, Nat.le_of_ble_eq_true rfl⟩ rfl rfl (Nat.le_of_ble_eq_true rfl) dL_refusesAny_673 ⟨Nat.le_of_ble_eq_true rfl, Nat.le_of_ble_eq_true rfl⟩ (fun H locs hP hD hS => ?_)
                                                                                                                            refine lv_if_ne (tgt := 699) hx hb dL_refusesAny_676 (by decide) (fun c_242 => ?_) (fun c_242 => ?_)
                                                                                                                            · skip
                                                                                                                              exact absurd (by decide) c_242
                                                                                                                            · skip
                                                                                                                              refine lv_aload_n hx hb dL_refusesAny_679 rfl (lv_at hl 5 rfl) ?_
                                                                                                                              refine h_op (st := []) C hS hP hD hl.1 (k_read h0) gL_refusesAny_X4_read rfl hd_read ⟨Nat.le_of_ble_eq_true rfl, Nat.le_of_ble_eq_true rfl⟩ rfl rfl (Nat.le_of_ble_eq_true rfl) dL_refusesAny_680 ⟨Nat.le_of_ble_eq_true rfl, Nat.le_of_ble_eq_true rfl⟩ (fun H locs hP hD hS => ?_)
                                                                                                                              refine lv_bipush (v := (-3)) hx hb dL_refusesAny_683 (by decide) ?_
                                                                                                                              refine lv_icmp_ne (tgt := 699) hx hb dL_refusesAny_685 (by decide) (fun c_243 => ?_) (fun c_243 => ?_)
                                                                                                                              · skip
                                                                                                                                exact absurd (by decide) c_243
                                                                                                                              · skip
                                                                                                                                refine lv_aload_n hx hb dL_refusesAny_688 rfl (lv_at hl 5 rfl) ?_
                                                                                                                                refine h_op (st := []) C hS hP hD hl.1 (k_fault h0) gL_refusesAny_X4_fault rfl hd_fault ⟨Nat.le_of_ble_eq_true rfl, Nat.le_of_ble_eq_true rfl⟩ rfl rfl (Nat.le_of_ble_eq_true rfl) dL_refusesAny_689 ⟨Nat.le_of_ble_eq_true rfl, Nat.le_of_ble_eq_true rfl⟩ (fun H locs hP hD hS => ?_)
                                                                                                                                refine lv_if_ne (tgt := 699) hx hb dL_refusesAny_692 (by decide) (fun c_244 => ?_) (fun c_244 => ?_)
                                                                                                                                · skip
                                                                                                                                  exact absurd (by decide) c_244
                                                                                                                                · skip
                                                                                                                                  refine lv_iconst (v := nI 1) hx hb dL_refusesAny_695 (by decide) ?_
                                                                                                                                  refine lv_goto (tgt := 700) hx hb dL_refusesAny_696 (by decide) ?_
                                                                                                                                  exact hret _ _ _ _ hP hS dL_refusesAny_700
                                                                                                                      · skip
                                                                                                                        exact absurd ((nI_eq (a := (X % 2)) (b := 0) (by omega) (by omega)).mp c_239) (by omega)
                                                                                                                  · skip
                                                                                                                    exact absurd ((nI_eq (a := (X % 2)) (b := 0) (by omega) (by omega)).mp c_237) (by omega)
                                                                                                              · skip
                                                                                                                exact absurd ((nI_eq (a := (X % 2)) (b := 0) (by omega) (by omega)).mp c_235) (by omega)
                                                                                                    · skip
                                                                                                      exact absurd ((nI_eq (a := (X % 2)) (b := 0) (by omega) (by omega)).mp c_230) (by omega)
                                                                                          · skip
                                                                                            exact absurd ((nI_eq (a := (X % 2)) (b := 0) (by omega) (by omega)).mp c_225) (by omega)
                                                                              · skip
                                                                                exact absurd ((nI_eq (a := (X % 2)) (b := 0) (by omega) (by omega)).mp c_219) (by omega)
                                                                        · skip
                                                                          exact absurd ((nI_eq (a := (X % 2)) (b := 0) (by omega) (by omega)).mp c_216) (by omega)
                                                                · skip
                                                                  exact absurd ((nI_eq (a := (X % 2)) (b := 0) (by omega) (by omega)).mp c_212) (by omega)
                                                · skip
                                                  exact absurd ((nI_eq (a := (X % 2)) (b := 0) (by omega) (by omega)).mp c_204) (by omega)
                                  · skip
                                    exact absurd ((nI_eq (a := (X % 2)) (b := 0) (by omega) (by omega)).mp c_197) (by omega)
                            · skip
                              exact absurd ((nI_eq (a := (X % 2)) (b := 0) (by omega) (by omega)).mp c_194) (by omega)
                        · skip
                          exact absurd ((nI_eq (a := (X % 2)) (b := 0) (by omega) (by omega)).mp c_192) (by omega)
                    · skip
                      exact absurd ((nI_eq (a := (X % 2)) (b := 0) (by omega) (by omega)).mp c_190) (by omega)
                · skip
                  exact absurd ((nI_eq (a := (X % 2)) (b := 0) (by omega) (by omega)).mp c_188) (by omega)
            · skip
              exact absurd ((nI_eq (a := (X % 2)) (b := 0) (by omega) (by omega)).mp c_186) (by omega)
        · skip
          exact absurd ((nI_eq (a := (X % 2)) (b := 0) (by omega) (by omega)).mp c_184) (by omega)
      · skip
        exact absurd ((nI_eq (a := (X % 2)) (b := 0) (by omega) (by omega)).mp c_183) (by omega)
