/-! the law's helper passes -/
set_option maxHeartbeats 4000000 in
set_option maxRecDepth 100000 in
theorem c_L_passes_sun (l : Launch) (G : va_G) (ca : Nat → ClassId) (tL tM : Nat) (B : AD) (v : VV) (n : Nat) (hs : Nat → SS) (u : Nat → Option SS) (N : NN) (bd : Nat) (hbd : bd ≤ 100) (hR : Ab B v n hs u) (h : Rn v.1 N) (b : Bd bd N) : ∃ v1 : VV, Gd (bd + 1) v1.1 ∧ Ab B v1 (recN n) (consS v.1 hs) u ∧ CtS l yL_passes wsL_passes rmA [.ref B.1.1, .int (nI 0)] G ca tL tM (XV ca B v) (XV ca B v1) (nI 1) := by
  have h0 := hR.1
  obtain ⟨n12, h12⟩ : ∃ n, n = 12 := ⟨_, rfl⟩
  obtain ⟨n6, h6⟩ : ∃ n, n = 6 := ⟨_, rfl⟩
  have hbf := b.fz
  have hbk := b.dk
  have hpb : pmN N ≤ 12 * 6 := snN_le 6 (fun w _ => popN_le _ 12)
  have hw7 : snN (n_wa N) 12 ≤ 60 * 12 := snN_le 12 (fun k hk => by have := b.wb k hk; omega)
  have hdy := b.dy
  obtain ⟨v1, hv1, hR1, hk⟩ := k_pass (l := l) (G := G) (ca := ca) (tL := tL) (tM := tM) (x := nI 0) (n6 := n6) (n12 := n12) hR (by decide) (by decide) (fun q => absurd q.1 (by decide)) h6 h12
  obtain ⟨N1, T, L, g⟩ := p_sun (n6 := n6) h b h12
  rw [← hv1] at g
  obtain ⟨g1, g2, g3, g4, g_dr, g6, g7, g_fz, g_fe, g_dk, g_pd, g_dy, g_se⟩ := g
  have hs1 := b.s1
  have h01 := hR1.1
  refine ⟨v1, ⟨N1, g1, g2⟩, hR1, ?_⟩
  refine CtS.ofW (cc := cL_passes) (maxL := 14) (rt := .boolean) (by decide) rfl (Nat.le_of_ble_eq_true rfl) rfl ?_
  intro pr en s m be me c A ls Q H hx hb hml hts hown hev hP hD hA hS hl hX hret
  have C : HC pr s m c cL_passes ([.ref B.1.1, .int (nI 0)] : List Value).toArray wsL_passes 14 G ca tL tM A := ⟨hx, hb, hml, hown, hts, hev, hX, hA⟩
  have hown : s.vm.findClass RL = some m.cls := hown
  have hl : lv_has ls 14 [(0, .ref B.1.1), (1, .int (nI 0))] := hl
  refine lv_aload_n hx hb dL_passes_0 rfl (lv_at hl 0 rfl) ?_
  refine lv_iconst (v := nI 5) hx hb dL_passes_1 (by decide) ?_
  refine h_op (st := []) C hS hP hD hl.1 (k_count h0 (q := 5) (by decide)) gL_passes_X4_count rfl hd_count ⟨Nat.le_of_ble_eq_true rfl, Nat.le_of_ble_eq_true rfl⟩ rfl rfl (Nat.le_of_ble_eq_true rfl) dL_passes_2 ⟨Nat.le_of_ble_eq_true rfl, Nat.le_of_ble_eq_true rfl⟩ (fun H locs hP hD hS => ?_)
  refine lv_eqi (y := nI (T + L)) (g4) ?_
  refine lv_istore_n (lv' := [(2, .int (nI (T + L))), (0, .ref B.1.1), (1, .int (nI 0))]) hx hb dL_passes_5 rfl hl (by decide) rfl (fun ls hl => ?_)
  refine lv_aload_n hx hb dL_passes_6 rfl (lv_at hl 1 rfl) ?_
  refine lv_bipush (v := nI 6) hx hb dL_passes_7 (by decide) ?_
  refine h_op (st := []) C hS hP hD hl.1 (k_count h0 (q := 6) (by decide)) gL_passes_X4_count rfl hd_count ⟨Nat.le_of_ble_eq_true rfl, Nat.le_of_ble_eq_true rfl⟩ rfl rfl (Nat.le_of_ble_eq_true rfl) dL_passes_9 ⟨Nat.le_of_ble_eq_true rfl, Nat.le_of_ble_eq_true rfl⟩ (fun H locs hP hD hS => ?_)
  refine lv_eqi (y := s_fe v.1) (rfl) ?_
  refine lv_istore_n (lv' := [(3, .int (s_fe v.1)), (2, .int (nI (T + L))), (0, .ref B.1.1), (1, .int (nI 0))]) hx hb dL_passes_12 rfl hl (by decide) rfl (fun ls hl => ?_)
  refine lv_aload_n hx hb dL_passes_13 rfl (lv_at hl 2 rfl) ?_
  refine lv_bipush (v := nI 7) hx hb dL_passes_14 (by decide) ?_
  refine h_op (st := []) C hS hP hD hl.1 (k_count h0 (q := 7) (by decide)) gL_passes_X4_count rfl hd_count ⟨Nat.le_of_ble_eq_true rfl, Nat.le_of_ble_eq_true rfl⟩ rfl rfl (Nat.le_of_ble_eq_true rfl) dL_passes_16 ⟨Nat.le_of_ble_eq_true rfl, Nat.le_of_ble_eq_true rfl⟩ (fun H locs hP hD hS => ?_)
  refine lv_eqi (y := s_dr v.1) (rfl) ?_
  refine lv_istore (lv' := [(4, .int (s_dr v.1)), (3, .int (s_fe v.1)), (2, .int (nI (T + L))), (0, .ref B.1.1), (1, .int (nI 0))]) hx hb dL_passes_19 hl (by decide) rfl (fun ls hl => ?_)
  refine lv_aload_n hx hb dL_passes_21 rfl (lv_at hl 3 rfl) ?_
  refine lv_bipush (v := nI 9) hx hb dL_passes_22 (by decide) ?_
  refine h_op (st := []) C hS hP hD hl.1 (k_count h0 (q := 9) (by decide)) gL_passes_X4_count rfl hd_count ⟨Nat.le_of_ble_eq_true rfl, Nat.le_of_ble_eq_true rfl⟩ rfl rfl (Nat.le_of_ble_eq_true rfl) dL_passes_24 ⟨Nat.le_of_ble_eq_true rfl, Nat.le_of_ble_eq_true rfl⟩ (fun H locs hP hD hS => ?_)
  refine lv_eqi (y := nI (n_fz N)) (h.fz) ?_
  refine lv_istore (lv' := [(5, .int (nI (n_fz N))), (4, .int (s_dr v.1)), (3, .int (s_fe v.1)), (2, .int (nI (T + L))), (0, .ref B.1.1), (1, .int (nI 0))]) hx hb dL_passes_27 hl (by decide) rfl (fun ls hl => ?_)
  refine lv_aload_n hx hb dL_passes_29 rfl (lv_at hl 4 rfl) ?_
  refine lv_bipush (v := nI 10) hx hb dL_passes_30 (by decide) ?_
  refine h_op (st := []) C hS hP hD hl.1 (k_count h0 (q := 10) (by decide)) gL_passes_X4_count rfl hd_count ⟨Nat.le_of_ble_eq_true rfl, Nat.le_of_ble_eq_true rfl⟩ rfl rfl (Nat.le_of_ble_eq_true rfl) dL_passes_32 ⟨Nat.le_of_ble_eq_true rfl, Nat.le_of_ble_eq_true rfl⟩ (fun H locs hP hD hS => ?_)
  refine lv_eqi (y := s_dk v.1) (rfl) ?_
  refine lv_istore (lv' := [(6, .int (s_dk v.1)), (5, .int (nI (n_fz N))), (4, .int (s_dr v.1)), (3, .int (s_fe v.1)), (2, .int (nI (T + L))), (0, .ref B.1.1), (1, .int (nI 0))]) hx hb dL_passes_35 hl (by decide) rfl (fun ls hl => ?_)
  refine lv_aload_n hx hb dL_passes_37 rfl (lv_at hl 5 rfl) ?_
  refine lv_bipush (v := nI 11) hx hb dL_passes_38 (by decide) ?_
  refine h_op (st := []) C hS hP hD hl.1 (k_count h0 (q := 11) (by decide)) gL_passes_X4_count rfl hd_count ⟨Nat.le_of_ble_eq_true rfl, Nat.le_of_ble_eq_true rfl⟩ rfl rfl (Nat.le_of_ble_eq_true rfl) dL_passes_40 ⟨Nat.le_of_ble_eq_true rfl, Nat.le_of_ble_eq_true rfl⟩ (fun H locs hP hD hS => ?_)
  refine lv_eqi (y := pmA v.1) (rfl) ?_
  refine lv_istore (lv' := [(7, .int (pmA v.1)), (6, .int (s_dk v.1)), (5, .int (nI (n_fz N))), (4, .int (s_dr v.1)), (3, .int (s_fe v.1)), (2, .int (nI (T + L))), (0, .ref B.1.1), (1, .int (nI 0))]) hx hb dL_passes_43 hl (by decide) rfl (fun ls hl => ?_)
  refine lv_aload_n hx hb dL_passes_45 rfl (lv_at hl 6 rfl) ?_
  refine lv_iconst (v := nI 4) hx hb dL_passes_46 (by decide) ?_
  refine h_op (st := []) C hS hP hD hl.1 (k_count h0 (q := 4) (by decide)) gL_passes_X4_count rfl hd_count ⟨Nat.le_of_ble_eq_true rfl, Nat.le_of_ble_eq_true rfl⟩ rfl rfl (Nat.le_of_ble_eq_true rfl) dL_passes_47 ⟨Nat.le_of_ble_eq_true rfl, Nat.le_of_ble_eq_true rfl⟩ (fun H locs hP hD hS => ?_)
  refine lv_eqi (y := s_dy v.1) (rfl) ?_
  refine lv_istore (lv' := [(8, .int (s_dy v.1)), (7, .int (pmA v.1)), (6, .int (s_dk v.1)), (5, .int (nI (n_fz N))), (4, .int (s_dr v.1)), (3, .int (s_fe v.1)), (2, .int (nI (T + L))), (0, .ref B.1.1), (1, .int (nI 0))]) hx hb dL_passes_50 hl (by decide) rfl (fun ls hl => ?_)
  refine lv_aload_n hx hb dL_passes_52 rfl (lv_at hl 7 rfl) ?_
  refine lv_iload_n hx hb dL_passes_53 rfl (lv_at hl 8 rfl) ?_
  refine h_op (st := []) C hS hP hD hl.1 (hk) gL_passes_X4_pass rfl hd_pass ⟨Nat.le_of_ble_eq_true rfl, Nat.le_of_ble_eq_true rfl⟩ rfl rfl (Nat.le_of_ble_eq_true rfl) dL_passes_54 ⟨Nat.le_of_ble_eq_true rfl, Nat.le_of_ble_eq_true rfl⟩ (fun H locs hP hD hS => ?_)
  refine lv_eqi (y := nI T) (by rw [← hv1]; exact g3) ?_
  refine lv_istore (lv' := [(9, .int (nI T)), (8, .int (s_dy v.1)), (7, .int (pmA v.1)), (6, .int (s_dk v.1)), (5, .int (nI (n_fz N))), (4, .int (s_dr v.1)), (3, .int (s_fe v.1)), (2, .int (nI (T + L))), (0, .ref B.1.1), (1, .int (nI 0))]) hx hb dL_passes_57 hl (by decide) rfl (fun ls hl => ?_)
  refine lv_iload hx hb dL_passes_59 (lv_at hl 0 rfl) ?_
  refine lv_aload_n hx hb dL_passes_61 rfl (lv_at hl 8 rfl) ?_
  refine lv_iconst (v := nI 5) hx hb dL_passes_62 (by decide) ?_
  refine h_op (st := [.int (nI T)]) C hS hP hD hl.1 (k_count h01 (q := 5) (by decide)) gL_passes_X4_count rfl hd_count ⟨Nat.le_of_ble_eq_true rfl, Nat.le_of_ble_eq_true rfl⟩ rfl rfl (Nat.le_of_ble_eq_true rfl) dL_passes_63 ⟨Nat.le_of_ble_eq_true rfl, Nat.le_of_ble_eq_true rfl⟩ (fun H locs hP hD hS => ?_)
  refine lv_eqi (y := nI T) (g3) ?_
  refine lv_icmp_ne (tgt := 123) hx hb dL_passes_66 (by decide) (fun c_1 => ?_) (fun c_1 => ?_)
  · skip
    exact absurd ((nI_eq (a := T) (b := T) (by omega) (by omega)).mpr (by omega)) c_1
  · skip
    refine lv_aload_n hx hb dL_passes_69 rfl (lv_at hl 8 rfl) ?_
    refine lv_iconst (v := nI 4) hx hb dL_passes_70 (by decide) ?_
    refine h_op (st := []) C hS hP hD hl.1 (k_count h01 (q := 4) (by decide)) gL_passes_X4_count rfl hd_count ⟨Nat.le_of_ble_eq_true rfl, Nat.le_of_ble_eq_true rfl⟩ rfl rfl (Nat.le_of_ble_eq_true rfl) dL_passes_71 ⟨Nat.le_of_ble_eq_true rfl, Nat.le_of_ble_eq_true rfl⟩ (fun H locs hP hD hS => ?_)
    refine lv_eqi (y := s_dy v1.1) (rfl) ?_
    refine lv_iload hx hb dL_passes_74 (lv_at hl 1 rfl) ?_
    refine lv_iload_n hx hb dL_passes_76 rfl (lv_at hl 9 rfl) ?_
    refine lv_bipush (v := nI 11) hx hb dL_passes_77 (by decide) ?_
    refine lv_icmp_ne (tgt := 86) hx hb dL_passes_79 (by decide) (fun c_2 => ?_) (fun c_2 => ?_)
    · skip
      refine lv_iconst (v := nI 0) hx hb dL_passes_86 (by decide) ?_
      refine lv_iadd hx hb dL_passes_87 ?_
      refine lv_icmp_ne (tgt := 123) hx hb dL_passes_88 (by decide) (fun c_3 => ?_) (fun c_3 => ?_)
      · skip
        exact absurd (by rw [g_dy]; exact (Int32.add_zero _).symm) c_3
      · skip
        refine lv_iload_n hx hb dL_passes_91 rfl (lv_at hl 9 rfl) ?_
        refine lv_bipush (v := nI 11) hx hb dL_passes_92 (by decide) ?_
        refine lv_icmp_eq (tgt := 119) hx hb dL_passes_94 (by decide) (fun c_4 => ?_) (fun c_4 => ?_)
        · skip
          exact absurd c_4 (by decide)
        · skip
          refine lv_aload_n hx hb dL_passes_97 rfl (lv_at hl 8 rfl) ?_
          refine lv_bipush (v := nI 10) hx hb dL_passes_98 (by decide) ?_
          refine h_op (st := []) C hS hP hD hl.1 (k_count h01 (q := 10) (by decide)) gL_passes_X4_count rfl hd_count ⟨Nat.le_of_ble_eq_true rfl, Nat.le_of_ble_eq_true rfl⟩ rfl rfl (Nat.le_of_ble_eq_true rfl) dL_passes_100 ⟨Nat.le_of_ble_eq_true rfl, Nat.le_of_ble_eq_true rfl⟩ (fun H locs hP hD hS => ?_)
          refine lv_eqi (y := s_dk v1.1) (rfl) ?_
          refine lv_iload hx hb dL_passes_103 (lv_at hl 3 rfl) ?_
          refine lv_icmp_ne (tgt := 123) hx hb dL_passes_105 (by decide) (fun c_5 => ?_) (fun c_5 => ?_)
          · skip
            exact absurd g_dk c_5
          · skip
            refine lv_aload_n hx hb dL_passes_108 rfl (lv_at hl 8 rfl) ?_
            refine lv_bipush (v := nI 11) hx hb dL_passes_109 (by decide) ?_
            refine h_op (st := []) C hS hP hD hl.1 (k_count h01 (q := 11) (by decide)) gL_passes_X4_count rfl hd_count ⟨Nat.le_of_ble_eq_true rfl, Nat.le_of_ble_eq_true rfl⟩ rfl rfl (Nat.le_of_ble_eq_true rfl) dL_passes_111 ⟨Nat.le_of_ble_eq_true rfl, Nat.le_of_ble_eq_true rfl⟩ (fun H locs hP hD hS => ?_)
            refine lv_eqi (y := pmA v1.1) (rfl) ?_
            refine lv_iload hx hb dL_passes_114 (lv_at hl 2 rfl) ?_
            refine lv_icmp_ne (tgt := 123) hx hb dL_passes_116 (by decide) (fun c_6 => ?_) (fun c_6 => ?_)
            · skip
              exact absurd (by unfold pmA; rw [g_pd]) c_6
            · skip
              refine lv_iconst (v := nI 1) hx hb dL_passes_119 (by decide) ?_
              refine lv_goto (tgt := 124) hx hb dL_passes_120 (by decide) ?_
              refine lv_istore (lv' := [(10, .int (nI 1)), (9, .int (nI T)), (8, .int (s_dy v.1)), (7, .int (pmA v.1)), (6, .int (s_dk v.1)), (5, .int (nI (n_fz N))), (4, .int (s_dr v.1)), (3, .int (s_fe v.1)), (2, .int (nI (T + L))), (0, .ref B.1.1), (1, .int (nI 0))]) hx hb dL_passes_124 hl (by decide) rfl (fun ls hl => ?_)
              refine lv_iload_n hx hb dL_passes_126 rfl (lv_at hl 10 rfl) ?_
              refine lv_if_ne (tgt := 196) hx hb dL_passes_127 (by decide) (fun c_7 => ?_) (fun c_7 => ?_)
              · skip
                exact absurd (by decide) c_7
              · skip
                refine lv_iload hx hb dL_passes_130 (lv_at hl 0 rfl) ?_
                refine lv_if_eq (tgt := 194) hx hb dL_passes_132 (by decide) (fun c_8 => ?_) (fun c_8 => ?_)
                · skip
                  exact absurd c_8 (by decide)
                · skip
                  refine lv_aload_n hx hb dL_passes_135 rfl (lv_at hl 9 rfl) ?_
                  refine lv_bipush (v := nI 9) hx hb dL_passes_136 (by decide) ?_
                  refine h_op (st := []) C hS hP hD hl.1 (k_count h01 (q := 9) (by decide)) gL_passes_X4_count rfl hd_count ⟨Nat.le_of_ble_eq_true rfl, Nat.le_of_ble_eq_true rfl⟩ rfl rfl (Nat.le_of_ble_eq_true rfl) dL_passes_138 ⟨Nat.le_of_ble_eq_true rfl, Nat.le_of_ble_eq_true rfl⟩ (fun H locs hP hD hS => ?_)
                  refine lv_eqi (y := nI 0) (g_fz) ?_
                  refine lv_if_ne (tgt := 194) hx hb dL_passes_141 (by decide) (fun c_9 => ?_) (fun c_9 => ?_)
                  · skip
                    exact absurd (by decide) c_9
                  · skip
                    refine lv_aload_n hx hb dL_passes_144 rfl (lv_at hl 9 rfl) ?_
                    refine lv_bipush (v := nI 6) hx hb dL_passes_145 (by decide) ?_
                    refine h_op (st := []) C hS hP hD hl.1 (k_count h01 (q := 6) (by decide)) gL_passes_X4_count rfl hd_count ⟨Nat.le_of_ble_eq_true rfl, Nat.le_of_ble_eq_true rfl⟩ rfl rfl (Nat.le_of_ble_eq_true rfl) dL_passes_147 ⟨Nat.le_of_ble_eq_true rfl, Nat.le_of_ble_eq_true rfl⟩ (fun H locs hP hD hS => ?_)
                    refine lv_eqi (y := s_fe v1.1) (rfl) ?_
                    refine lv_iload_n hx hb dL_passes_150 rfl (lv_at hl 7 rfl) ?_
                    refine lv_icmp_ne (tgt := 194) hx hb dL_passes_151 (by decide) (fun c_10 => ?_) (fun c_10 => ?_)
                    · skip
                      exact absurd g_fe c_10
                    · skip
                      refine lv_iload_n hx hb dL_passes_154 rfl (lv_at hl 8 rfl) ?_
                      refine lv_iload hx hb dL_passes_155 (lv_at hl 1 rfl) ?_
                      refine lv_isub hx hb dL_passes_157 ?_
                      refine lv_eqi (pk_sub (by omega)) ?_
                      refine lv_aload_n hx hb dL_passes_158 rfl (lv_at hl 9 rfl) ?_
                      refine lv_bipush (v := nI 7) hx hb dL_passes_159 (by decide) ?_
                      refine h_op (st := [.int (nI ((T + L) - T))]) C hS hP hD hl.1 (k_count h01 (q := 7) (by decide)) gL_passes_X4_count rfl hd_count ⟨Nat.le_of_ble_eq_true rfl, Nat.le_of_ble_eq_true rfl⟩ rfl rfl (Nat.le_of_ble_eq_true rfl) dL_passes_161 ⟨Nat.le_of_ble_eq_true rfl, Nat.le_of_ble_eq_true rfl⟩ (fun H locs hP hD hS => ?_)
                      refine lv_eqi (y := s_dr v1.1) (rfl) ?_
                      refine lv_iload hx hb dL_passes_164 (lv_at hl 6 rfl) ?_
                      refine lv_isub hx hb dL_passes_166 ?_
                      refine lv_eqi (y := nI L) (by rw [g_dr]; exact i32_6 _ _) ?_
                      refine lv_icmp_ne (tgt := 194) hx hb dL_passes_167 (by decide) (fun c_11 => ?_) (fun c_11 => ?_)
                      · skip
                        exact absurd ((nI_eq (a := ((T + L) - T)) (b := L) (by omega) (by omega)).mpr (by omega)) c_11
                      · skip
                        refine lv_aload_n hx hb dL_passes_170 rfl (lv_at hl 9 rfl) ?_
                        refine lv_bipush (v := nI 7) hx hb dL_passes_171 (by decide) ?_
                        refine h_op (st := []) C hS hP hD hl.1 (k_count h01 (q := 7) (by decide)) gL_passes_X4_count rfl hd_count ⟨Nat.le_of_ble_eq_true rfl, Nat.le_of_ble_eq_true rfl⟩ rfl rfl (Nat.le_of_ble_eq_true rfl) dL_passes_173 ⟨Nat.le_of_ble_eq_true rfl, Nat.le_of_ble_eq_true rfl⟩ (fun H locs hP hD hS => ?_)
                        refine lv_eqi (y := s_dr v1.1) (rfl) ?_
                        refine lv_iload hx hb dL_passes_176 (lv_at hl 6 rfl) ?_
                        refine lv_isub hx hb dL_passes_178 ?_
                        refine lv_eqi (y := nI L) (by rw [g_dr]; exact i32_6 _ _) ?_
                        refine lv_bipush (v := nI 12) hx hb dL_passes_179 (by decide) ?_
                        refine lv_aload_n hx hb dL_passes_181 rfl (lv_at hl 9 rfl) ?_
                        refine lv_iconst (v := nI 1) hx hb dL_passes_182 (by decide) ?_
                        refine h_op (st := [.int (nI 12), .int (nI L)]) C hS hP hD hl.1 (k_count h01 (q := 1) (by decide)) gL_passes_X4_count rfl hd_count ⟨Nat.le_of_ble_eq_true rfl, Nat.le_of_ble_eq_true rfl⟩ rfl rfl (Nat.le_of_ble_eq_true rfl) dL_passes_183 ⟨Nat.le_of_ble_eq_true rfl, Nat.le_of_ble_eq_true rfl⟩ (fun H locs hP hD hS => ?_)
                        refine lv_eqi (y := nI (n_se N 1)) ((show s_se v1.1 1 = _ by rw [g_se]; exact h.se 1 (by omega))) ?_
                        refine lv_imul hx hb dL_passes_186 ?_
                        refine lv_eqi (pk_mul _ _) ?_
                        refine lv_icmp_gt (tgt := 194) hx hb dL_passes_187 (by decide) (fun c_12 => ?_) (fun c_12 => ?_)
                        · skip
                          exact absurd c_12 (nI_nlt (a := (12 * (n_se N 1))) (b := L) (by omega) (by omega))
                        · skip
                          refine lv_iconst (v := nI 1) hx hb dL_passes_190 (by decide) ?_
                          refine lv_goto (tgt := 195) hx hb dL_passes_191 (by decide) ?_
                          exact hret _ _ _ _ hP hS dL_passes_195
    · skip
      exact absurd c_2 (by decide)
set_option maxHeartbeats 4000000 in
set_option maxRecDepth 100000 in
theorem c_L_passes_rain (l : Launch) (G : va_G) (ca : Nat → ClassId) (tL tM : Nat) (B : AD) (v : VV) (n : Nat) (hs : Nat → SS) (u : Nat → Option SS) (N : NN) (bd : Nat) (hbd : bd ≤ 100) (hR : Ab B v n hs u) (h : Rn v.1 N) (b : Bd bd N) (x : Nat) (hx1 : 1 ≤ x) (hx : x ≤ 9) : ∃ v1 : VV, Gd (bd + 1) v1.1 ∧ Ab B v1 (recN n) (consS v.1 hs) u ∧ CtS l yL_passes wsL_passes rmA [.ref B.1.1, .int (nI x)] G ca tL tM (XV ca B v) (XV ca B v1) (nI 1) := by
  have h0 := hR.1
  obtain ⟨n12, h12⟩ : ∃ n, n = 12 := ⟨_, rfl⟩
  obtain ⟨n6, h6⟩ : ∃ n, n = 6 := ⟨_, rfl⟩
  have hbf := b.fz
  have hbk := b.dk
  have hpb : pmN N ≤ 12 * 6 := snN_le 6 (fun w _ => popN_le _ 12)
  have hw7 : snN (n_wa N) 12 ≤ 60 * 12 := snN_le 12 (fun k hk => by have := b.wb k hk; omega)
  have hdy := b.dy
  obtain ⟨v1, hv1, hR1, hk⟩ := k_pass (l := l) (G := G) (ca := ca) (tL := tL) (tM := tM) (x := nI x) (n6 := n6) (n12 := n12) hR (nI_pos (by omega)) (nI_le (b := 11) (by omega) (by omega)) (fun q => by have := (nI_eq (b := 11) (by omega) (by omega)).mp q.1; omega) h6 h12
  obtain ⟨N1, T, T1, g⟩ := p_rain (n6 := n6) h b h12 hx1 hx
  rw [← hv1] at g
  obtain ⟨g1, g2, g3, g4, g5, g6, g_fe, g_fz, g_dr, g_dk, g_pd, g_dy⟩ := g
  have hpl := popN_le (n_fz N) 12
  have h01 := hR1.1
  refine ⟨v1, ⟨N1, g1, g2⟩, hR1, ?_⟩
  refine CtS.ofW (cc := cL_passes) (maxL := 14) (rt := .boolean) (by decide) rfl (Nat.le_of_ble_eq_true rfl) rfl ?_
  intro pr en s m be me c A ls Q H hx hb hml hts hown hev hP hD hA hS hl hX hret
  have C : HC pr s m c cL_passes ([.ref B.1.1, .int (nI x)] : List Value).toArray wsL_passes 14 G ca tL tM A := ⟨hx, hb, hml, hown, hts, hev, hX, hA⟩
  have hown : s.vm.findClass RL = some m.cls := hown
  have hl : lv_has ls 14 [(0, .ref B.1.1), (1, .int (nI x))] := hl
  refine lv_aload_n hx hb dL_passes_0 rfl (lv_at hl 0 rfl) ?_
  refine lv_iconst (v := nI 5) hx hb dL_passes_1 (by decide) ?_
  refine h_op (st := []) C hS hP hD hl.1 (k_count h0 (q := 5) (by decide)) gL_passes_X4_count rfl hd_count ⟨Nat.le_of_ble_eq_true rfl, Nat.le_of_ble_eq_true rfl⟩ rfl rfl (Nat.le_of_ble_eq_true rfl) dL_passes_2 ⟨Nat.le_of_ble_eq_true rfl, Nat.le_of_ble_eq_true rfl⟩ (fun H locs hP hD hS => ?_)
  refine lv_eqi (y := nI T) (g4) ?_
  refine lv_istore_n (lv' := [(2, .int (nI T)), (0, .ref B.1.1), (1, .int (nI x))]) hx hb dL_passes_5 rfl hl (by decide) rfl (fun ls hl => ?_)
  refine lv_aload_n hx hb dL_passes_6 rfl (lv_at hl 1 rfl) ?_
  refine lv_bipush (v := nI 6) hx hb dL_passes_7 (by decide) ?_
  refine h_op (st := []) C hS hP hD hl.1 (k_count h0 (q := 6) (by decide)) gL_passes_X4_count rfl hd_count ⟨Nat.le_of_ble_eq_true rfl, Nat.le_of_ble_eq_true rfl⟩ rfl rfl (Nat.le_of_ble_eq_true rfl) dL_passes_9 ⟨Nat.le_of_ble_eq_true rfl, Nat.le_of_ble_eq_true rfl⟩ (fun H locs hP hD hS => ?_)
  refine lv_eqi (y := s_fe v.1) (rfl) ?_
  refine lv_istore_n (lv' := [(3, .int (s_fe v.1)), (2, .int (nI T)), (0, .ref B.1.1), (1, .int (nI x))]) hx hb dL_passes_12 rfl hl (by decide) rfl (fun ls hl => ?_)
  refine lv_aload_n hx hb dL_passes_13 rfl (lv_at hl 2 rfl) ?_
  refine lv_bipush (v := nI 7) hx hb dL_passes_14 (by decide) ?_
  refine h_op (st := []) C hS hP hD hl.1 (k_count h0 (q := 7) (by decide)) gL_passes_X4_count rfl hd_count ⟨Nat.le_of_ble_eq_true rfl, Nat.le_of_ble_eq_true rfl⟩ rfl rfl (Nat.le_of_ble_eq_true rfl) dL_passes_16 ⟨Nat.le_of_ble_eq_true rfl, Nat.le_of_ble_eq_true rfl⟩ (fun H locs hP hD hS => ?_)
  refine lv_eqi (y := s_dr v.1) (rfl) ?_
  refine lv_istore (lv' := [(4, .int (s_dr v.1)), (3, .int (s_fe v.1)), (2, .int (nI T)), (0, .ref B.1.1), (1, .int (nI x))]) hx hb dL_passes_19 hl (by decide) rfl (fun ls hl => ?_)
  refine lv_aload_n hx hb dL_passes_21 rfl (lv_at hl 3 rfl) ?_
  refine lv_bipush (v := nI 9) hx hb dL_passes_22 (by decide) ?_
  refine h_op (st := []) C hS hP hD hl.1 (k_count h0 (q := 9) (by decide)) gL_passes_X4_count rfl hd_count ⟨Nat.le_of_ble_eq_true rfl, Nat.le_of_ble_eq_true rfl⟩ rfl rfl (Nat.le_of_ble_eq_true rfl) dL_passes_24 ⟨Nat.le_of_ble_eq_true rfl, Nat.le_of_ble_eq_true rfl⟩ (fun H locs hP hD hS => ?_)
  refine lv_eqi (y := nI (n_fz N)) (h.fz) ?_
  refine lv_istore (lv' := [(5, .int (nI (n_fz N))), (4, .int (s_dr v.1)), (3, .int (s_fe v.1)), (2, .int (nI T)), (0, .ref B.1.1), (1, .int (nI x))]) hx hb dL_passes_27 hl (by decide) rfl (fun ls hl => ?_)
  refine lv_aload_n hx hb dL_passes_29 rfl (lv_at hl 4 rfl) ?_
  refine lv_bipush (v := nI 10) hx hb dL_passes_30 (by decide) ?_
  refine h_op (st := []) C hS hP hD hl.1 (k_count h0 (q := 10) (by decide)) gL_passes_X4_count rfl hd_count ⟨Nat.le_of_ble_eq_true rfl, Nat.le_of_ble_eq_true rfl⟩ rfl rfl (Nat.le_of_ble_eq_true rfl) dL_passes_32 ⟨Nat.le_of_ble_eq_true rfl, Nat.le_of_ble_eq_true rfl⟩ (fun H locs hP hD hS => ?_)
  refine lv_eqi (y := s_dk v.1) (rfl) ?_
  refine lv_istore (lv' := [(6, .int (s_dk v.1)), (5, .int (nI (n_fz N))), (4, .int (s_dr v.1)), (3, .int (s_fe v.1)), (2, .int (nI T)), (0, .ref B.1.1), (1, .int (nI x))]) hx hb dL_passes_35 hl (by decide) rfl (fun ls hl => ?_)
  refine lv_aload_n hx hb dL_passes_37 rfl (lv_at hl 5 rfl) ?_
  refine lv_bipush (v := nI 11) hx hb dL_passes_38 (by decide) ?_
  refine h_op (st := []) C hS hP hD hl.1 (k_count h0 (q := 11) (by decide)) gL_passes_X4_count rfl hd_count ⟨Nat.le_of_ble_eq_true rfl, Nat.le_of_ble_eq_true rfl⟩ rfl rfl (Nat.le_of_ble_eq_true rfl) dL_passes_40 ⟨Nat.le_of_ble_eq_true rfl, Nat.le_of_ble_eq_true rfl⟩ (fun H locs hP hD hS => ?_)
  refine lv_eqi (y := pmA v.1) (rfl) ?_
  refine lv_istore (lv' := [(7, .int (pmA v.1)), (6, .int (s_dk v.1)), (5, .int (nI (n_fz N))), (4, .int (s_dr v.1)), (3, .int (s_fe v.1)), (2, .int (nI T)), (0, .ref B.1.1), (1, .int (nI x))]) hx hb dL_passes_43 hl (by decide) rfl (fun ls hl => ?_)
  refine lv_aload_n hx hb dL_passes_45 rfl (lv_at hl 6 rfl) ?_
  refine lv_iconst (v := nI 4) hx hb dL_passes_46 (by decide) ?_
  refine h_op (st := []) C hS hP hD hl.1 (k_count h0 (q := 4) (by decide)) gL_passes_X4_count rfl hd_count ⟨Nat.le_of_ble_eq_true rfl, Nat.le_of_ble_eq_true rfl⟩ rfl rfl (Nat.le_of_ble_eq_true rfl) dL_passes_47 ⟨Nat.le_of_ble_eq_true rfl, Nat.le_of_ble_eq_true rfl⟩ (fun H locs hP hD hS => ?_)
  refine lv_eqi (y := s_dy v.1) (rfl) ?_
  refine lv_istore (lv' := [(8, .int (s_dy v.1)), (7, .int (pmA v.1)), (6, .int (s_dk v.1)), (5, .int (nI (n_fz N))), (4, .int (s_dr v.1)), (3, .int (s_fe v.1)), (2, .int (nI T)), (0, .ref B.1.1), (1, .int (nI x))]) hx hb dL_passes_50 hl (by decide) rfl (fun ls hl => ?_)
  refine lv_aload_n hx hb dL_passes_52 rfl (lv_at hl 7 rfl) ?_
  refine lv_iload_n hx hb dL_passes_53 rfl (lv_at hl 8 rfl) ?_
  refine h_op (st := []) C hS hP hD hl.1 (hk) gL_passes_X4_pass rfl hd_pass ⟨Nat.le_of_ble_eq_true rfl, Nat.le_of_ble_eq_true rfl⟩ rfl rfl (Nat.le_of_ble_eq_true rfl) dL_passes_54 ⟨Nat.le_of_ble_eq_true rfl, Nat.le_of_ble_eq_true rfl⟩ (fun H locs hP hD hS => ?_)
  refine lv_eqi (y := nI T1) (by rw [← hv1]; exact g3) ?_
  refine lv_istore (lv' := [(9, .int (nI T1)), (8, .int (s_dy v.1)), (7, .int (pmA v.1)), (6, .int (s_dk v.1)), (5, .int (nI (n_fz N))), (4, .int (s_dr v.1)), (3, .int (s_fe v.1)), (2, .int (nI T)), (0, .ref B.1.1), (1, .int (nI x))]) hx hb dL_passes_57 hl (by decide) rfl (fun ls hl => ?_)
  refine lv_iload hx hb dL_passes_59 (lv_at hl 0 rfl) ?_
  refine lv_aload_n hx hb dL_passes_61 rfl (lv_at hl 8 rfl) ?_
  refine lv_iconst (v := nI 5) hx hb dL_passes_62 (by decide) ?_
  refine h_op (st := [.int (nI T1)]) C hS hP hD hl.1 (k_count h01 (q := 5) (by decide)) gL_passes_X4_count rfl hd_count ⟨Nat.le_of_ble_eq_true rfl, Nat.le_of_ble_eq_true rfl⟩ rfl rfl (Nat.le_of_ble_eq_true rfl) dL_passes_63 ⟨Nat.le_of_ble_eq_true rfl, Nat.le_of_ble_eq_true rfl⟩ (fun H locs hP hD hS => ?_)
  refine lv_eqi (y := nI T1) (g3) ?_
  refine lv_icmp_ne (tgt := 123) hx hb dL_passes_66 (by decide) (fun c_1 => ?_) (fun c_1 => ?_)
  · skip
    exact absurd ((nI_eq (a := T1) (b := T1) (by omega) (by omega)).mpr (by omega)) c_1
  · skip
    refine lv_aload_n hx hb dL_passes_69 rfl (lv_at hl 8 rfl) ?_
    refine lv_iconst (v := nI 4) hx hb dL_passes_70 (by decide) ?_
    refine h_op (st := []) C hS hP hD hl.1 (k_count h01 (q := 4) (by decide)) gL_passes_X4_count rfl hd_count ⟨Nat.le_of_ble_eq_true rfl, Nat.le_of_ble_eq_true rfl⟩ rfl rfl (Nat.le_of_ble_eq_true rfl) dL_passes_71 ⟨Nat.le_of_ble_eq_true rfl, Nat.le_of_ble_eq_true rfl⟩ (fun H locs hP hD hS => ?_)
    refine lv_eqi (y := s_dy v1.1) (rfl) ?_
    refine lv_iload hx hb dL_passes_74 (lv_at hl 1 rfl) ?_
    refine lv_iload_n hx hb dL_passes_76 rfl (lv_at hl 9 rfl) ?_
    refine lv_bipush (v := nI 11) hx hb dL_passes_77 (by decide) ?_
    refine lv_icmp_ne (tgt := 86) hx hb dL_passes_79 (by decide) (fun c_2 => ?_) (fun c_2 => ?_)
    · skip
      refine lv_iconst (v := nI 0) hx hb dL_passes_86 (by decide) ?_
      refine lv_iadd hx hb dL_passes_87 ?_
      refine lv_icmp_ne (tgt := 123) hx hb dL_passes_88 (by decide) (fun c_3 => ?_) (fun c_3 => ?_)
      · skip
        exact absurd (by rw [g_dy]; exact (Int32.add_zero _).symm) c_3
      · skip
        refine lv_iload_n hx hb dL_passes_91 rfl (lv_at hl 9 rfl) ?_
        refine lv_bipush (v := nI 11) hx hb dL_passes_92 (by decide) ?_
        refine lv_icmp_eq (tgt := 119) hx hb dL_passes_94 (by decide) (fun c_4 => ?_) (fun c_4 => ?_)
        · skip
          exact absurd ((nI_eq (a := x) (b := 11) (by omega) (by omega)).mp c_4) (by omega)
        · skip
          refine lv_aload_n hx hb dL_passes_97 rfl (lv_at hl 8 rfl) ?_
          refine lv_bipush (v := nI 10) hx hb dL_passes_98 (by decide) ?_
          refine h_op (st := []) C hS hP hD hl.1 (k_count h01 (q := 10) (by decide)) gL_passes_X4_count rfl hd_count ⟨Nat.le_of_ble_eq_true rfl, Nat.le_of_ble_eq_true rfl⟩ rfl rfl (Nat.le_of_ble_eq_true rfl) dL_passes_100 ⟨Nat.le_of_ble_eq_true rfl, Nat.le_of_ble_eq_true rfl⟩ (fun H locs hP hD hS => ?_)
          refine lv_eqi (y := s_dk v1.1) (rfl) ?_
          refine lv_iload hx hb dL_passes_103 (lv_at hl 3 rfl) ?_
          refine lv_icmp_ne (tgt := 123) hx hb dL_passes_105 (by decide) (fun c_5 => ?_) (fun c_5 => ?_)
          · skip
            exact absurd g_dk c_5
          · skip
            refine lv_aload_n hx hb dL_passes_108 rfl (lv_at hl 8 rfl) ?_
            refine lv_bipush (v := nI 11) hx hb dL_passes_109 (by decide) ?_
            refine h_op (st := []) C hS hP hD hl.1 (k_count h01 (q := 11) (by decide)) gL_passes_X4_count rfl hd_count ⟨Nat.le_of_ble_eq_true rfl, Nat.le_of_ble_eq_true rfl⟩ rfl rfl (Nat.le_of_ble_eq_true rfl) dL_passes_111 ⟨Nat.le_of_ble_eq_true rfl, Nat.le_of_ble_eq_true rfl⟩ (fun H locs hP hD hS => ?_)
            refine lv_eqi (y := pmA v1.1) (rfl) ?_
            refine lv_iload hx hb dL_passes_114 (lv_at hl 2 rfl) ?_
            refine lv_icmp_ne (tgt := 123) hx hb dL_passes_116 (by decide) (fun c_6 => ?_) (fun c_6 => ?_)
            · skip
              exact absurd (by unfold pmA; rw [g_pd]) c_6
            · skip
              refine lv_iconst (v := nI 1) hx hb dL_passes_119 (by decide) ?_
              refine lv_goto (tgt := 124) hx hb dL_passes_120 (by decide) ?_
              refine lv_istore (lv' := [(10, .int (nI 1)), (9, .int (nI T1)), (8, .int (s_dy v.1)), (7, .int (pmA v.1)), (6, .int (s_dk v.1)), (5, .int (nI (n_fz N))), (4, .int (s_dr v.1)), (3, .int (s_fe v.1)), (2, .int (nI T)), (0, .ref B.1.1), (1, .int (nI x))]) hx hb dL_passes_124 hl (by decide) rfl (fun ls hl => ?_)
              refine lv_iload_n hx hb dL_passes_126 rfl (lv_at hl 10 rfl) ?_
              refine lv_if_ne (tgt := 196) hx hb dL_passes_127 (by decide) (fun c_7 => ?_) (fun c_7 => ?_)
              · skip
                refine lv_iload_n hx hb dL_passes_196 rfl (lv_at hl 10 rfl) ?_
                refine lv_bipush (v := nI 10) hx hb dL_passes_197 (by decide) ?_
                refine lv_icmp_ge (tgt := 262) hx hb dL_passes_199 (by decide) (fun c_8 => ?_) (fun c_8 => ?_)
                · skip
                  exact absurd c_8 (nI_ge (a := x) (b := 10) (by omega) (by omega))
                · skip
                  refine lv_iload hx hb dL_passes_202 (lv_at hl 0 rfl) ?_
                  refine lv_if_eq (tgt := 260) hx hb dL_passes_204 (by decide) (fun c_9 => ?_) (fun c_9 => ?_)
                  · skip
                    exact absurd c_9 (by decide)
                  · skip
                    refine lv_aload_n hx hb dL_passes_207 rfl (lv_at hl 9 rfl) ?_
                    refine lv_bipush (v := nI 9) hx hb dL_passes_208 (by decide) ?_
                    refine h_op (st := []) C hS hP hD hl.1 (k_count h01 (q := 9) (by decide)) gL_passes_X4_count rfl hd_count ⟨Nat.le_of_ble_eq_true rfl, Nat.le_of_ble_eq_true rfl⟩ rfl rfl (Nat.le_of_ble_eq_true rfl) dL_passes_210 ⟨Nat.le_of_ble_eq_true rfl, Nat.le_of_ble_eq_true rfl⟩ (fun H locs hP hD hS => ?_)
                    refine lv_eqi (y := nI (n_fz N)) ((g_fz.trans h.fz)) ?_
                    refine lv_iload hx hb dL_passes_213 (lv_at hl 5 rfl) ?_
                    refine lv_icmp_ne (tgt := 260) hx hb dL_passes_215 (by decide) (fun c_10 => ?_) (fun c_10 => ?_)
                    · skip
                      exact absurd ((nI_eq (a := (n_fz N)) (b := (n_fz N)) (by omega) (by omega)).mpr (by omega)) c_10
                    · skip
                      refine lv_aload_n hx hb dL_passes_218 rfl (lv_at hl 9 rfl) ?_
                      refine lv_bipush (v := nI 6) hx hb dL_passes_219 (by decide) ?_
                      refine h_op (st := []) C hS hP hD hl.1 (k_count h01 (q := 6) (by decide)) gL_passes_X4_count rfl hd_count ⟨Nat.le_of_ble_eq_true rfl, Nat.le_of_ble_eq_true rfl⟩ rfl rfl (Nat.le_of_ble_eq_true rfl) dL_passes_221 ⟨Nat.le_of_ble_eq_true rfl, Nat.le_of_ble_eq_true rfl⟩ (fun H locs hP hD hS => ?_)
                      refine lv_eqi (y := s_fe v1.1) (rfl) ?_
                      refine lv_iload_n hx hb dL_passes_224 rfl (lv_at hl 7 rfl) ?_
                      refine lv_iload_n hx hb dL_passes_225 rfl (lv_at hl 10 rfl) ?_
                      refine lv_bipush (v := nI 12) hx hb dL_passes_226 (by decide) ?_
                      refine lv_iload hx hb dL_passes_228 (lv_at hl 5 rfl) ?_
                      refine h_sz (st := [.int (nI 12), .int (nI x), .int (s_fe v.1), .int (s_fe v1.1)]) C hS hP hl.1 (c_L_size l G ca (m := (n_fz N)) b.fz) gL_passes_L_size rfl rfl rfl hd_L_size ⟨Nat.le_of_ble_eq_true rfl, Nat.le_of_ble_eq_true rfl⟩ rfl rfl (Nat.le_of_ble_eq_true rfl) dL_passes_230 ⟨Nat.le_of_ble_eq_true rfl, Nat.le_of_ble_eq_true rfl⟩ (fun H locs hP hS => ?_)
                      refine lv_isub hx hb dL_passes_233 ?_
                      refine lv_eqi (pk_sub (by omega)) ?_
                      refine lv_imul hx hb dL_passes_234 ?_
                      refine lv_eqi (pk_mul _ _) ?_
                      refine lv_iadd hx hb dL_passes_235 ?_
                      refine lv_icmp_ne (tgt := 260) hx hb dL_passes_236 (by decide) (fun c_11 => ?_) (fun c_11 => ?_)
                      · skip
                        exact absurd g_fe c_11
                      · skip
                        refine lv_aload_n hx hb dL_passes_239 rfl (lv_at hl 9 rfl) ?_
                        refine lv_bipush (v := nI 7) hx hb dL_passes_240 (by decide) ?_
                        refine h_op (st := []) C hS hP hD hl.1 (k_count h01 (q := 7) (by decide)) gL_passes_X4_count rfl hd_count ⟨Nat.le_of_ble_eq_true rfl, Nat.le_of_ble_eq_true rfl⟩ rfl rfl (Nat.le_of_ble_eq_true rfl) dL_passes_242 ⟨Nat.le_of_ble_eq_true rfl, Nat.le_of_ble_eq_true rfl⟩ (fun H locs hP hD hS => ?_)
                        refine lv_eqi (y := s_dr v1.1) (rfl) ?_
                        refine lv_iload hx hb dL_passes_245 (lv_at hl 6 rfl) ?_
                        refine lv_icmp_ne (tgt := 260) hx hb dL_passes_247 (by decide) (fun c_12 => ?_) (fun c_12 => ?_)
                        · skip
                          exact absurd g_dr c_12
                        · skip
                          refine lv_iload hx hb dL_passes_250 (lv_at hl 1 rfl) ?_
                          refine lv_iload_n hx hb dL_passes_252 rfl (lv_at hl 8 rfl) ?_
                          refine lv_icmp_lt (tgt := 260) hx hb dL_passes_253 (by decide) (fun c_13 => ?_) (fun c_13 => ?_)
                          · skip
                            exact absurd c_13 (nI_nlt (a := T1) (b := T) (by omega) (by omega))
                          · skip
                            refine lv_iconst (v := nI 1) hx hb dL_passes_256 (by decide) ?_
                            refine lv_goto (tgt := 261) hx hb dL_passes_257 (by decide) ?_
                            exact hret _ _ _ _ hP hS dL_passes_261
              · skip
                exact absurd ((nI_eq (a := x) (b := 0) (by omega) (by omega)).mp c_7) (by omega)
    · skip
      exact absurd ((nI_eq (a := x) (b := 11) (by omega) (by omega)).mp c_2) (by omega)
set_option maxHeartbeats 4000000 in
set_option maxRecDepth 100000 in
theorem c_L_passes_frost (l : Launch) (G : va_G) (ca : Nat → ClassId) (tL tM : Nat) (B : AD) (v : VV) (n : Nat) (hs : Nat → SS) (u : Nat → Option SS) (N : NN) (bd : Nat) (hbd : bd ≤ 100) (hR : Ab B v n hs u) (h : Rn v.1 N) (b : Bd bd N) : ∃ v1 : VV, Gd (bd + 1) v1.1 ∧ Ab B v1 (recN n) (consS v.1 hs) u ∧ CtS l yL_passes wsL_passes rmA [.ref B.1.1, .int (nI 10)] G ca tL tM (XV ca B v) (XV ca B v1) (nI 1) := by
  have h0 := hR.1
  obtain ⟨n12, h12⟩ : ∃ n, n = 12 := ⟨_, rfl⟩
  obtain ⟨n6, h6⟩ : ∃ n, n = 6 := ⟨_, rfl⟩
  have hbf := b.fz
  have hbk := b.dk
  have hpb : pmN N ≤ 12 * 6 := snN_le 6 (fun w _ => popN_le _ 12)
  have hw7 : snN (n_wa N) 12 ≤ 60 * 12 := snN_le 12 (fun k hk => by have := b.wb k hk; omega)
  have hdy := b.dy
  obtain ⟨v1, hv1, hR1, hk⟩ := k_pass (l := l) (G := G) (ca := ca) (tL := tL) (tM := tM) (x := nI 10) (n6 := n6) (n12 := n12) hR (by decide) (by decide) (fun q => absurd q.1 (by decide)) h6 h12
  obtain ⟨N1, g⟩ := p_frost (n6 := n6) h b h12
  rw [← hv1] at g
  obtain ⟨g1, g2, g_wa2, g_se2, g_bit, g_wa, g_se, g_fe, g_dk, g_pd, g_dy⟩ := g
  have h01 := hR1.1
  refine ⟨v1, ⟨N1, g1, g2⟩, hR1, ?_⟩
  refine CtS.ofW (cc := cL_passes) (maxL := 14) (rt := .boolean) (by decide) rfl (Nat.le_of_ble_eq_true rfl) rfl ?_
  intro pr en s m be me c A ls Q H hx hb hml hts hown hev hP hD hA hS hl hX hret
  have C : HC pr s m c cL_passes ([.ref B.1.1, .int (nI 10)] : List Value).toArray wsL_passes 14 G ca tL tM A := ⟨hx, hb, hml, hown, hts, hev, hX, hA⟩
  have hown : s.vm.findClass RL = some m.cls := hown
  have hl : lv_has ls 14 [(0, .ref B.1.1), (1, .int (nI 10))] := hl
  refine lv_aload_n hx hb dL_passes_0 rfl (lv_at hl 0 rfl) ?_
  refine lv_iconst (v := nI 5) hx hb dL_passes_1 (by decide) ?_
  refine h_op (st := []) C hS hP hD hl.1 (k_count h0 (q := 5) (by decide)) gL_passes_X4_count rfl hd_count ⟨Nat.le_of_ble_eq_true rfl, Nat.le_of_ble_eq_true rfl⟩ rfl rfl (Nat.le_of_ble_eq_true rfl) dL_passes_2 ⟨Nat.le_of_ble_eq_true rfl, Nat.le_of_ble_eq_true rfl⟩ (fun H locs hP hD hS => ?_)
  refine lv_eqi (y := nI (snN (n_wa N) 12)) (e_c5 h) ?_
  refine lv_istore_n (lv' := [(2, .int (nI (snN (n_wa N) 12))), (0, .ref B.1.1), (1, .int (nI 10))]) hx hb dL_passes_5 rfl hl (by decide) rfl (fun ls hl => ?_)
  refine lv_aload_n hx hb dL_passes_6 rfl (lv_at hl 1 rfl) ?_
  refine lv_bipush (v := nI 6) hx hb dL_passes_7 (by decide) ?_
  refine h_op (st := []) C hS hP hD hl.1 (k_count h0 (q := 6) (by decide)) gL_passes_X4_count rfl hd_count ⟨Nat.le_of_ble_eq_true rfl, Nat.le_of_ble_eq_true rfl⟩ rfl rfl (Nat.le_of_ble_eq_true rfl) dL_passes_9 ⟨Nat.le_of_ble_eq_true rfl, Nat.le_of_ble_eq_true rfl⟩ (fun H locs hP hD hS => ?_)
  refine lv_eqi (y := s_fe v.1) (rfl) ?_
  refine lv_istore_n (lv' := [(3, .int (s_fe v.1)), (2, .int (nI (snN (n_wa N) 12))), (0, .ref B.1.1), (1, .int (nI 10))]) hx hb dL_passes_12 rfl hl (by decide) rfl (fun ls hl => ?_)
  refine lv_aload_n hx hb dL_passes_13 rfl (lv_at hl 2 rfl) ?_
  refine lv_bipush (v := nI 7) hx hb dL_passes_14 (by decide) ?_
  refine h_op (st := []) C hS hP hD hl.1 (k_count h0 (q := 7) (by decide)) gL_passes_X4_count rfl hd_count ⟨Nat.le_of_ble_eq_true rfl, Nat.le_of_ble_eq_true rfl⟩ rfl rfl (Nat.le_of_ble_eq_true rfl) dL_passes_16 ⟨Nat.le_of_ble_eq_true rfl, Nat.le_of_ble_eq_true rfl⟩ (fun H locs hP hD hS => ?_)
  refine lv_eqi (y := s_dr v.1) (rfl) ?_
  refine lv_istore (lv' := [(4, .int (s_dr v.1)), (3, .int (s_fe v.1)), (2, .int (nI (snN (n_wa N) 12))), (0, .ref B.1.1), (1, .int (nI 10))]) hx hb dL_passes_19 hl (by decide) rfl (fun ls hl => ?_)
  refine lv_aload_n hx hb dL_passes_21 rfl (lv_at hl 3 rfl) ?_
  refine lv_bipush (v := nI 9) hx hb dL_passes_22 (by decide) ?_
  refine h_op (st := []) C hS hP hD hl.1 (k_count h0 (q := 9) (by decide)) gL_passes_X4_count rfl hd_count ⟨Nat.le_of_ble_eq_true rfl, Nat.le_of_ble_eq_true rfl⟩ rfl rfl (Nat.le_of_ble_eq_true rfl) dL_passes_24 ⟨Nat.le_of_ble_eq_true rfl, Nat.le_of_ble_eq_true rfl⟩ (fun H locs hP hD hS => ?_)
  refine lv_eqi (y := nI (n_fz N)) (h.fz) ?_
  refine lv_istore (lv' := [(5, .int (nI (n_fz N))), (4, .int (s_dr v.1)), (3, .int (s_fe v.1)), (2, .int (nI (snN (n_wa N) 12))), (0, .ref B.1.1), (1, .int (nI 10))]) hx hb dL_passes_27 hl (by decide) rfl (fun ls hl => ?_)
  refine lv_aload_n hx hb dL_passes_29 rfl (lv_at hl 4 rfl) ?_
  refine lv_bipush (v := nI 10) hx hb dL_passes_30 (by decide) ?_
  refine h_op (st := []) C hS hP hD hl.1 (k_count h0 (q := 10) (by decide)) gL_passes_X4_count rfl hd_count ⟨Nat.le_of_ble_eq_true rfl, Nat.le_of_ble_eq_true rfl⟩ rfl rfl (Nat.le_of_ble_eq_true rfl) dL_passes_32 ⟨Nat.le_of_ble_eq_true rfl, Nat.le_of_ble_eq_true rfl⟩ (fun H locs hP hD hS => ?_)
  refine lv_eqi (y := s_dk v.1) (rfl) ?_
  refine lv_istore (lv' := [(6, .int (s_dk v.1)), (5, .int (nI (n_fz N))), (4, .int (s_dr v.1)), (3, .int (s_fe v.1)), (2, .int (nI (snN (n_wa N) 12))), (0, .ref B.1.1), (1, .int (nI 10))]) hx hb dL_passes_35 hl (by decide) rfl (fun ls hl => ?_)
  refine lv_aload_n hx hb dL_passes_37 rfl (lv_at hl 5 rfl) ?_
  refine lv_bipush (v := nI 11) hx hb dL_passes_38 (by decide) ?_
  refine h_op (st := []) C hS hP hD hl.1 (k_count h0 (q := 11) (by decide)) gL_passes_X4_count rfl hd_count ⟨Nat.le_of_ble_eq_true rfl, Nat.le_of_ble_eq_true rfl⟩ rfl rfl (Nat.le_of_ble_eq_true rfl) dL_passes_40 ⟨Nat.le_of_ble_eq_true rfl, Nat.le_of_ble_eq_true rfl⟩ (fun H locs hP hD hS => ?_)
  refine lv_eqi (y := pmA v.1) (rfl) ?_
  refine lv_istore (lv' := [(7, .int (pmA v.1)), (6, .int (s_dk v.1)), (5, .int (nI (n_fz N))), (4, .int (s_dr v.1)), (3, .int (s_fe v.1)), (2, .int (nI (snN (n_wa N) 12))), (0, .ref B.1.1), (1, .int (nI 10))]) hx hb dL_passes_43 hl (by decide) rfl (fun ls hl => ?_)
  refine lv_aload_n hx hb dL_passes_45 rfl (lv_at hl 6 rfl) ?_
  refine lv_iconst (v := nI 4) hx hb dL_passes_46 (by decide) ?_
  refine h_op (st := []) C hS hP hD hl.1 (k_count h0 (q := 4) (by decide)) gL_passes_X4_count rfl hd_count ⟨Nat.le_of_ble_eq_true rfl, Nat.le_of_ble_eq_true rfl⟩ rfl rfl (Nat.le_of_ble_eq_true rfl) dL_passes_47 ⟨Nat.le_of_ble_eq_true rfl, Nat.le_of_ble_eq_true rfl⟩ (fun H locs hP hD hS => ?_)
  refine lv_eqi (y := s_dy v.1) (rfl) ?_
  refine lv_istore (lv' := [(8, .int (s_dy v.1)), (7, .int (pmA v.1)), (6, .int (s_dk v.1)), (5, .int (nI (n_fz N))), (4, .int (s_dr v.1)), (3, .int (s_fe v.1)), (2, .int (nI (snN (n_wa N) 12))), (0, .ref B.1.1), (1, .int (nI 10))]) hx hb dL_passes_50 hl (by decide) rfl (fun ls hl => ?_)
  refine lv_aload_n hx hb dL_passes_52 rfl (lv_at hl 7 rfl) ?_
  refine lv_iload_n hx hb dL_passes_53 rfl (lv_at hl 8 rfl) ?_
  refine h_op (st := []) C hS hP hD hl.1 (hk) gL_passes_X4_pass rfl hd_pass ⟨Nat.le_of_ble_eq_true rfl, Nat.le_of_ble_eq_true rfl⟩ rfl rfl (Nat.le_of_ble_eq_true rfl) dL_passes_54 ⟨Nat.le_of_ble_eq_true rfl, Nat.le_of_ble_eq_true rfl⟩ (fun H locs hP hD hS => ?_)
  refine lv_eqi (y := nI (snN (n_wa N) 12)) (by rw [← hv1]; exact (show smD (s_wa v1.1) 12 = _ by rw [g_wa]; exact e_c5 h)) ?_
  refine lv_istore (lv' := [(9, .int (nI (snN (n_wa N) 12))), (8, .int (s_dy v.1)), (7, .int (pmA v.1)), (6, .int (s_dk v.1)), (5, .int (nI (n_fz N))), (4, .int (s_dr v.1)), (3, .int (s_fe v.1)), (2, .int (nI (snN (n_wa N) 12))), (0, .ref B.1.1), (1, .int (nI 10))]) hx hb dL_passes_57 hl (by decide) rfl (fun ls hl => ?_)
  refine lv_iload hx hb dL_passes_59 (lv_at hl 0 rfl) ?_
  refine lv_aload_n hx hb dL_passes_61 rfl (lv_at hl 8 rfl) ?_
  refine lv_iconst (v := nI 5) hx hb dL_passes_62 (by decide) ?_
  refine h_op (st := [.int (nI (snN (n_wa N) 12))]) C hS hP hD hl.1 (k_count h01 (q := 5) (by decide)) gL_passes_X4_count rfl hd_count ⟨Nat.le_of_ble_eq_true rfl, Nat.le_of_ble_eq_true rfl⟩ rfl rfl (Nat.le_of_ble_eq_true rfl) dL_passes_63 ⟨Nat.le_of_ble_eq_true rfl, Nat.le_of_ble_eq_true rfl⟩ (fun H locs hP hD hS => ?_)
  refine lv_eqi (y := nI (snN (n_wa N) 12)) ((show smD (s_wa v1.1) 12 = _ by rw [g_wa]; exact e_c5 h)) ?_
  refine lv_icmp_ne (tgt := 123) hx hb dL_passes_66 (by decide) (fun c_1 => ?_) (fun c_1 => ?_)
  · skip
    exact absurd ((nI_eq (a := (snN (n_wa N) 12)) (b := (snN (n_wa N) 12)) (by omega) (by omega)).mpr (by omega)) c_1
  · skip
    refine lv_aload_n hx hb dL_passes_69 rfl (lv_at hl 8 rfl) ?_
    refine lv_iconst (v := nI 4) hx hb dL_passes_70 (by decide) ?_
    refine h_op (st := []) C hS hP hD hl.1 (k_count h01 (q := 4) (by decide)) gL_passes_X4_count rfl hd_count ⟨Nat.le_of_ble_eq_true rfl, Nat.le_of_ble_eq_true rfl⟩ rfl rfl (Nat.le_of_ble_eq_true rfl) dL_passes_71 ⟨Nat.le_of_ble_eq_true rfl, Nat.le_of_ble_eq_true rfl⟩ (fun H locs hP hD hS => ?_)
    refine lv_eqi (y := s_dy v1.1) (rfl) ?_
    refine lv_iload hx hb dL_passes_74 (lv_at hl 1 rfl) ?_
    refine lv_iload_n hx hb dL_passes_76 rfl (lv_at hl 9 rfl) ?_
    refine lv_bipush (v := nI 11) hx hb dL_passes_77 (by decide) ?_
    refine lv_icmp_ne (tgt := 86) hx hb dL_passes_79 (by decide) (fun c_2 => ?_) (fun c_2 => ?_)
    · skip
      refine lv_iconst (v := nI 0) hx hb dL_passes_86 (by decide) ?_
      refine lv_iadd hx hb dL_passes_87 ?_
      refine lv_icmp_ne (tgt := 123) hx hb dL_passes_88 (by decide) (fun c_3 => ?_) (fun c_3 => ?_)
      · skip
        exact absurd (by rw [g_dy]; exact (Int32.add_zero _).symm) c_3
      · skip
        refine lv_iload_n hx hb dL_passes_91 rfl (lv_at hl 9 rfl) ?_
        refine lv_bipush (v := nI 11) hx hb dL_passes_92 (by decide) ?_
        refine lv_icmp_eq (tgt := 119) hx hb dL_passes_94 (by decide) (fun c_4 => ?_) (fun c_4 => ?_)
        · skip
          exact absurd c_4 (by decide)
        · skip
          refine lv_aload_n hx hb dL_passes_97 rfl (lv_at hl 8 rfl) ?_
          refine lv_bipush (v := nI 10) hx hb dL_passes_98 (by decide) ?_
          refine h_op (st := []) C hS hP hD hl.1 (k_count h01 (q := 10) (by decide)) gL_passes_X4_count rfl hd_count ⟨Nat.le_of_ble_eq_true rfl, Nat.le_of_ble_eq_true rfl⟩ rfl rfl (Nat.le_of_ble_eq_true rfl) dL_passes_100 ⟨Nat.le_of_ble_eq_true rfl, Nat.le_of_ble_eq_true rfl⟩ (fun H locs hP hD hS => ?_)
          refine lv_eqi (y := s_dk v1.1) (rfl) ?_
          refine lv_iload hx hb dL_passes_103 (lv_at hl 3 rfl) ?_
          refine lv_icmp_ne (tgt := 123) hx hb dL_passes_105 (by decide) (fun c_5 => ?_) (fun c_5 => ?_)
          · skip
            exact absurd g_dk c_5
          · skip
            refine lv_aload_n hx hb dL_passes_108 rfl (lv_at hl 8 rfl) ?_
            refine lv_bipush (v := nI 11) hx hb dL_passes_109 (by decide) ?_
            refine h_op (st := []) C hS hP hD hl.1 (k_count h01 (q := 11) (by decide)) gL_passes_X4_count rfl hd_count ⟨Nat.le_of_ble_eq_true rfl, Nat.le_of_ble_eq_true rfl⟩ rfl rfl (Nat.le_of_ble_eq_true rfl) dL_passes_111 ⟨Nat.le_of_ble_eq_true rfl, Nat.le_of_ble_eq_true rfl⟩ (fun H locs hP hD hS => ?_)
            refine lv_eqi (y := pmA v1.1) (rfl) ?_
            refine lv_iload hx hb dL_passes_114 (lv_at hl 2 rfl) ?_
            refine lv_icmp_ne (tgt := 123) hx hb dL_passes_116 (by decide) (fun c_6 => ?_) (fun c_6 => ?_)
            · skip
              exact absurd (by unfold pmA; rw [g_pd]) c_6
            · skip
              refine lv_iconst (v := nI 1) hx hb dL_passes_119 (by decide) ?_
              refine lv_goto (tgt := 124) hx hb dL_passes_120 (by decide) ?_
              refine lv_istore (lv' := [(10, .int (nI 1)), (9, .int (nI (snN (n_wa N) 12))), (8, .int (s_dy v.1)), (7, .int (pmA v.1)), (6, .int (s_dk v.1)), (5, .int (nI (n_fz N))), (4, .int (s_dr v.1)), (3, .int (s_fe v.1)), (2, .int (nI (snN (n_wa N) 12))), (0, .ref B.1.1), (1, .int (nI 10))]) hx hb dL_passes_124 hl (by decide) rfl (fun ls hl => ?_)
              refine lv_iload_n hx hb dL_passes_126 rfl (lv_at hl 10 rfl) ?_
              refine lv_if_ne (tgt := 196) hx hb dL_passes_127 (by decide) (fun c_7 => ?_) (fun c_7 => ?_)
              · skip
                refine lv_iload_n hx hb dL_passes_196 rfl (lv_at hl 10 rfl) ?_
                refine lv_bipush (v := nI 10) hx hb dL_passes_197 (by decide) ?_
                refine lv_icmp_ge (tgt := 262) hx hb dL_passes_199 (by decide) (fun c_8 => ?_) (fun c_8 => ?_)
                · skip
                  refine lv_iconst (v := nI 0) hx hb dL_passes_262 (by decide) ?_
                  refine lv_istore (lv' := [(11, .int (nI 0)), (10, .int (nI 1)), (9, .int (nI (snN (n_wa N) 12))), (8, .int (s_dy v.1)), (7, .int (pmA v.1)), (6, .int (s_dk v.1)), (5, .int (nI (n_fz N))), (4, .int (s_dr v.1)), (3, .int (s_fe v.1)), (2, .int (nI (snN (n_wa N) 12))), (0, .ref B.1.1), (1, .int (nI 10))]) hx hb dL_passes_263 hl (by decide) rfl (fun ls hl => ?_)
                  have loop_265 : ∀ (n p : Nat), p + n = n12 → ∀ (H : Heap) (locs : List Loc) (ls : Array Slot), va_P G vwCl (XV ca B v1) H → va_D A (XV ca B v1) → va_S A s.heap H locs → lv_has ls 14 [(0, .ref B.1.1), (1, .int (nI 10)), (2, .int (nI (snN (n_wa N) 12))), (3, .int (s_fe v.1)), (4, .int (s_dr v.1)), (5, .int (nI (n_fz N))), (6, .int (s_dk v.1)), (7, .int (pmA v.1)), (8, .int (s_dy v.1)), (9, .int (nI (snN (n_wa N) 12))), (10, .int (nI 1)), (11, .int (nI p))] → W pr l en (rmA : Room) s m ([.ref B.1.1, .int (nI 10)] : List Value).toArray be me c H locs 0 0 Q (F0 m 265 ls []) := by
                    intro n
                    induction n with
                    | zero =>
                      intro p hi H locs ls hP hD hS hl
                      obtain rfl : n12 = p := by omega
                      refine lv_iload hx hb dL_passes_265 (lv_at hl 11 rfl) ?_
                      refine lv_bipush (v := nI 12) hx hb dL_passes_267 (by decide) ?_
                      refine lv_icmp_ge (tgt := 401) hx hb dL_passes_269 (by decide) (fun c_9 => ?_) (fun c_9 => ?_)
                      · skip
                        refine lv_iload hx hb dL_passes_401 (lv_at hl 10 rfl) ?_
                        refine lv_if_eq (tgt := 454) hx hb dL_passes_403 (by decide) (fun c_10 => ?_) (fun c_10 => ?_)
                        · skip
                          exact absurd c_10 (by decide)
                        · skip
                          refine lv_iload hx hb dL_passes_406 (lv_at hl 9 rfl) ?_
                          refine lv_iload_n hx hb dL_passes_408 rfl (lv_at hl 2 rfl) ?_
                          refine lv_icmp_ne (tgt := 454) hx hb dL_passes_409 (by decide) (fun c_11 => ?_) (fun c_11 => ?_)
                          · skip
                            exact absurd ((nI_eq (a := (snN (n_wa N) 12)) (b := (snN (n_wa N) 12)) (by omega) (by omega)).mpr (by omega)) c_11
                          · skip
                            refine lv_aload_n hx hb dL_passes_412 rfl (lv_at hl 0 rfl) ?_
                            refine lv_bipush (v := nI 6) hx hb dL_passes_413 (by decide) ?_
                            refine h_op (st := []) C hS hP hD hl.1 (k_count h01 (q := 6) (by decide)) gL_passes_X4_count rfl hd_count ⟨Nat.le_of_ble_eq_true rfl, Nat.le_of_ble_eq_true rfl⟩ rfl rfl (Nat.le_of_ble_eq_true rfl) dL_passes_415 ⟨Nat.le_of_ble_eq_true rfl, Nat.le_of_ble_eq_true rfl⟩ (fun H locs hP hD hS => ?_)
                            refine lv_eqi (y := s_fe v1.1) (rfl) ?_
                            refine lv_iload_n hx hb dL_passes_418 rfl (lv_at hl 3 rfl) ?_
                            refine lv_icmp_ne (tgt := 454) hx hb dL_passes_419 (by decide) (fun c_12 => ?_) (fun c_12 => ?_)
                            · skip
                              exact absurd g_fe c_12
                            · skip
                              refine lv_iload_n hx hb dL_passes_422 rfl (lv_at hl 1 rfl) ?_
                              refine lv_bipush (v := nI 10) hx hb dL_passes_423 (by decide) ?_
                              refine lv_icmp_eq (tgt := 450) hx hb dL_passes_425 (by decide) (fun c_13 => ?_) (fun c_13 => ?_)
                              · skip
                                refine lv_iconst (v := nI 1) hx hb dL_passes_450 (by decide) ?_
                                refine lv_goto (tgt := 455) hx hb dL_passes_451 (by decide) ?_
                                exact hret _ _ _ _ hP hS dL_passes_455
                              · skip
                                exact absurd (by decide) c_13
                      · skip
                        exact absurd (nI_le (a := 12) (b := n12) (by omega) (by omega)) c_9
                    | succ n ih =>
                      intro p hi H locs ls hP hD hS hl
                      have hlt : p < n12 := by omega
                      refine lv_iload hx hb dL_passes_265 (lv_at hl 11 rfl) ?_
                      refine lv_bipush (v := nI 12) hx hb dL_passes_267 (by decide) ?_
                      refine lv_icmp_ge (tgt := 401) hx hb dL_passes_269 (by decide) (fun c_14 => ?_) (fun c_14 => ?_)
                      · skip
                        exact absurd c_14 (nI_ge (a := p) (b := 12) (by omega) (by omega))
                      · skip
                        refine lv_iload hx hb dL_passes_272 (lv_at hl 10 rfl) ?_
                        refine lv_if_eq (tgt := 401) hx hb dL_passes_274 (by decide) (fun c_15 => ?_) (fun c_15 => ?_)
                        · skip
                          exact absurd c_15 (by decide)
                        · skip
                          have hwb := b.wb p (by omega)
                          have hs2 := b.s2
                          have e2 : n_se N1 2 = n_se N 2 := congrFun g_se2 2
                          have ew : n_wa N1 p = n_wa N p := congrFun g_wa2 p
                          have hf := g_bit p (by omega)
                          have hb1 := bN_le (n_fz N1) p
                          have hb2 := bN_le (n_fz N) p
                          by_cases hd : 19 < n_wa N p
                          · skip
                            rcases (show n_wa N p < n_se N 2 ∨ (n_se N 2 ≤ n_wa N p ∧ bN (n_fz N1) p = 1) ∨ (n_se N 2 ≤ n_wa N p ∧ bN (n_fz N1) p = 0) by omega) with hc | hc | hc
                            · skip
                              rw [if_pos hd] at hf
                              refine lv_aload_n hx hb dL_passes_277 rfl (lv_at hl 0 rfl) ?_
                              refine lv_iload hx hb dL_passes_278 (lv_at hl 11 rfl) ?_
                              refine lv_iconst (v := nI 1) hx hb dL_passes_280 (by decide) ?_
                              refine h_op (st := []) C hS hP hD hl.1 (k_puddle (p := p) (by omega) (q := 1) (by decide)) gL_passes_X4_puddle rfl hd_puddle ⟨Nat.le_of_ble_eq_true rfl, Nat.le_of_ble_eq_true rfl⟩ rfl rfl (Nat.le_of_ble_eq_true rfl) dL_passes_281 ⟨Nat.le_of_ble_eq_true rfl, Nat.le_of_ble_eq_true rfl⟩ (fun H locs hP hD hS => ?_)
                              refine lv_eqi (y := nI (n_wa N1 p)) (e_p1 g1 (p := p) (by omega)) ?_
                              refine lv_bipush (v := nI 19) hx hb dL_passes_284 (by decide) ?_
                              refine lv_icmp_le (tgt := 293) hx hb dL_passes_286 (by decide) (fun c_16 => ?_) (fun c_16 => ?_)
                              · skip
                                exact absurd c_16 (nI_ge (a := 19) (b := (n_wa N1 p)) (by omega) (by omega))
                              · skip
                                refine lv_iconst (v := nI 1) hx hb dL_passes_289 (by decide) ?_
                                refine lv_goto (tgt := 294) hx hb dL_passes_290 (by decide) ?_
                                refine lv_istore (lv' := [(12, .int (nI 1)), (0, .ref B.1.1), (1, .int (nI 10)), (2, .int (nI (snN (n_wa N) 12))), (3, .int (s_fe v.1)), (4, .int (s_dr v.1)), (5, .int (nI (n_fz N))), (6, .int (s_dk v.1)), (7, .int (pmA v.1)), (8, .int (s_dy v.1)), (9, .int (nI (snN (n_wa N) 12))), (10, .int (nI 1)), (11, .int (nI p))]) hx hb dL_passes_294 hl (by decide) rfl (fun ls hl => ?_)
                                refine lv_aload_n hx hb dL_passes_296 rfl (lv_at hl 1 rfl) ?_
                                refine lv_iload hx hb dL_passes_297 (lv_at hl 12 rfl) ?_
                                refine lv_iconst (v := nI 1) hx hb dL_passes_299 (by decide) ?_
                                refine h_op (st := []) C hS hP hD hl.1 (k_puddle (p := p) (by omega) (q := 1) (by decide)) gL_passes_X4_puddle rfl hd_puddle ⟨Nat.le_of_ble_eq_true rfl, Nat.le_of_ble_eq_true rfl⟩ rfl rfl (Nat.le_of_ble_eq_true rfl) dL_passes_300 ⟨Nat.le_of_ble_eq_true rfl, Nat.le_of_ble_eq_true rfl⟩ (fun H locs hP hD hS => ?_)
                                refine lv_eqi (y := nI (n_wa N1 p)) (e_p1 g1 (p := p) (by omega)) ?_
                                refine lv_aload_n hx hb dL_passes_303 rfl (lv_at hl 1 rfl) ?_
                                refine lv_iconst (v := nI 2) hx hb dL_passes_304 (by decide) ?_
                                refine h_op (st := [.int (nI (n_wa N1 p))]) C hS hP hD hl.1 (k_count h01 (q := 2) (by decide)) gL_passes_X4_count rfl hd_count ⟨Nat.le_of_ble_eq_true rfl, Nat.le_of_ble_eq_true rfl⟩ rfl rfl (Nat.le_of_ble_eq_true rfl) dL_passes_305 ⟨Nat.le_of_ble_eq_true rfl, Nat.le_of_ble_eq_true rfl⟩ (fun H locs hP hD hS => ?_)
                                refine lv_eqi (y := nI (n_se N1 2)) (g1.se 2 (by omega)) ?_
                                refine lv_icmp_lt (tgt := 325) hx hb dL_passes_308 (by decide) (fun c_17 => ?_) (fun c_17 => ?_)
                                · skip
                                  refine lv_iconst (v := nI 0) hx hb dL_passes_325 (by decide) ?_
                                  refine lv_istore (lv' := [(13, .int (nI 0)), (12, .int (nI 1)), (0, .ref B.1.1), (1, .int (nI 10)), (2, .int (nI (snN (n_wa N) 12))), (3, .int (s_fe v.1)), (4, .int (s_dr v.1)), (5, .int (nI (n_fz N))), (6, .int (s_dk v.1)), (7, .int (pmA v.1)), (8, .int (s_dy v.1)), (9, .int (nI (snN (n_wa N) 12))), (10, .int (nI 1)), (11, .int (nI p))]) hx hb dL_passes_326 hl (by decide) rfl (fun ls hl => ?_)
                                  refine lv_iload_n hx hb dL_passes_328 rfl (lv_at hl 3 rfl) ?_
                                  refine lv_bipush (v := nI 10) hx hb dL_passes_329 (by decide) ?_
                                  refine lv_icmp_ne (tgt := 368) hx hb dL_passes_331 (by decide) (fun c_18 => ?_) (fun c_18 => ?_)
                                  · skip
                                    exact absurd (by decide) c_18
                                  · skip
                                    refine lv_aload_n hx hb dL_passes_334 rfl (lv_at hl 2 rfl) ?_
                                    refine lv_iload hx hb dL_passes_335 (lv_at hl 13 rfl) ?_
                                    refine lv_iconst (v := nI 3) hx hb dL_passes_337 (by decide) ?_
                                    refine h_op (st := []) C hS hP hD hl.1 (k_puddle (p := p) (by omega) (q := 3) (by decide)) gL_passes_X4_puddle rfl hd_puddle ⟨Nat.le_of_ble_eq_true rfl, Nat.le_of_ble_eq_true rfl⟩ rfl rfl (Nat.le_of_ble_eq_true rfl) dL_passes_338 ⟨Nat.le_of_ble_eq_true rfl, Nat.le_of_ble_eq_true rfl⟩ (fun H locs hP hD hS => ?_)
                                    refine lv_eqi (y := nI (bN (n_fz N1) p)) (e_p3 g1 g2 (p := p) (by omega)) ?_
                                    refine lv_iload hx hb dL_passes_341 (lv_at hl 1 rfl) ?_
                                    refine lv_if_eq (tgt := 356) hx hb dL_passes_343 (by decide) (fun c_19 => ?_) (fun c_19 => ?_)
                                    · skip
                                      exact absurd c_19 (by decide)
                                    · skip
                                      refine lv_iload hx hb dL_passes_346 (lv_at hl 7 rfl) ?_
                                      refine lv_iload hx hb dL_passes_348 (lv_at hl 13 rfl) ?_
                                      refine lv_ishr hx hb dL_passes_350 ?_
                                      refine lv_iconst (v := nI 1) hx hb dL_passes_351 (by decide) ?_
                                      refine lv_iand hx hb dL_passes_352 ?_
                                      refine lv_eqi (y := nI (bN (n_fz N) p)) (by exact sb_N _ b.fz p (by omega)) ?_
                                      refine lv_goto (tgt := 357) hx hb dL_passes_353 (by decide) ?_
                                      refine lv_icmp_ne (tgt := 364) hx hb dL_passes_357 (by decide) (fun c_20 => ?_) (fun c_20 => ?_)
                                      · skip
                                        exact absurd ((nI_eq (a := (bN (n_fz N1) p)) (b := (bN (n_fz N) p)) (by omega) (by omega)).mpr (by omega)) c_20
                                      · skip
                                        refine lv_iconst (v := nI 1) hx hb dL_passes_360 (by decide) ?_
                                        refine lv_goto (tgt := 393) hx hb dL_passes_361 (by decide) ?_
                                        refine lv_istore (lv' := [(10, .int (nI 1)), (13, .int (nI 0)), (12, .int (nI 1)), (0, .ref B.1.1), (1, .int (nI 10)), (2, .int (nI (snN (n_wa N) 12))), (3, .int (s_fe v.1)), (4, .int (s_dr v.1)), (5, .int (nI (n_fz N))), (6, .int (s_dk v.1)), (7, .int (pmA v.1)), (8, .int (s_dy v.1)), (9, .int (nI (snN (n_wa N) 12))), (11, .int (nI p))]) hx hb dL_passes_393 hl (by decide) rfl (fun ls hl => ?_)
                                        refine lv_iinc (v := nI (p + 1)) (lv' := [(11, .int (nI (p + 1))), (10, .int (nI 1)), (13, .int (nI 0)), (12, .int (nI 1)), (0, .ref B.1.1), (1, .int (nI 10)), (2, .int (nI (snN (n_wa N) 12))), (3, .int (s_fe v.1)), (4, .int (s_dr v.1)), (5, .int (nI (n_fz N))), (6, .int (s_dk v.1)), (7, .int (pmA v.1)), (8, .int (s_dy v.1)), (9, .int (nI (snN (n_wa N) 12)))]) hx hb dL_passes_395 hl (k := 13) rfl (nI_1 _) (by decide) rfl (fun ls hl => ?_)
                                        refine lv_goto (tgt := 265) hx hb dL_passes_398 (by decide) ?_
                                        exact ih (p + 1) (by omega) _ _ _ hP (D_of hD rfl) hS (lv_sub hl [4, 5, 6, 7, 8, 9, 10, 11, 12, 13, 1, 0] rfl)
                                · skip
                                  exact absurd (nI_lt (a := (n_wa N1 p)) (b := (n_se N1 2)) (by omega) (by omega)) c_17
                            · skip
                              rw [if_pos hd] at hf
                              refine lv_aload_n hx hb dL_passes_277 rfl (lv_at hl 0 rfl) ?_
                              refine lv_iload hx hb dL_passes_278 (lv_at hl 11 rfl) ?_
                              refine lv_iconst (v := nI 1) hx hb dL_passes_280 (by decide) ?_
                              refine h_op (st := []) C hS hP hD hl.1 (k_puddle (p := p) (by omega) (q := 1) (by decide)) gL_passes_X4_puddle rfl hd_puddle ⟨Nat.le_of_ble_eq_true rfl, Nat.le_of_ble_eq_true rfl⟩ rfl rfl (Nat.le_of_ble_eq_true rfl) dL_passes_281 ⟨Nat.le_of_ble_eq_true rfl, Nat.le_of_ble_eq_true rfl⟩ (fun H locs hP hD hS => ?_)
                              refine lv_eqi (y := nI (n_wa N1 p)) (e_p1 g1 (p := p) (by omega)) ?_
                              refine lv_bipush (v := nI 19) hx hb dL_passes_284 (by decide) ?_
                              refine lv_icmp_le (tgt := 293) hx hb dL_passes_286 (by decide) (fun c_21 => ?_) (fun c_21 => ?_)
                              · skip
                                exact absurd c_21 (nI_ge (a := 19) (b := (n_wa N1 p)) (by omega) (by omega))
                              · skip
                                refine lv_iconst (v := nI 1) hx hb dL_passes_289 (by decide) ?_
                                refine lv_goto (tgt := 294) hx hb dL_passes_290 (by decide) ?_
                                refine lv_istore (lv' := [(12, .int (nI 1)), (0, .ref B.1.1), (1, .int (nI 10)), (2, .int (nI (snN (n_wa N) 12))), (3, .int (s_fe v.1)), (4, .int (s_dr v.1)), (5, .int (nI (n_fz N))), (6, .int (s_dk v.1)), (7, .int (pmA v.1)), (8, .int (s_dy v.1)), (9, .int (nI (snN (n_wa N) 12))), (10, .int (nI 1)), (11, .int (nI p))]) hx hb dL_passes_294 hl (by decide) rfl (fun ls hl => ?_)
                                refine lv_aload_n hx hb dL_passes_296 rfl (lv_at hl 1 rfl) ?_
                                refine lv_iload hx hb dL_passes_297 (lv_at hl 12 rfl) ?_
                                refine lv_iconst (v := nI 1) hx hb dL_passes_299 (by decide) ?_
                                refine h_op (st := []) C hS hP hD hl.1 (k_puddle (p := p) (by omega) (q := 1) (by decide)) gL_passes_X4_puddle rfl hd_puddle ⟨Nat.le_of_ble_eq_true rfl, Nat.le_of_ble_eq_true rfl⟩ rfl rfl (Nat.le_of_ble_eq_true rfl) dL_passes_300 ⟨Nat.le_of_ble_eq_true rfl, Nat.le_of_ble_eq_true rfl⟩ (fun H locs hP hD hS => ?_)
                                refine lv_eqi (y := nI (n_wa N1 p)) (e_p1 g1 (p := p) (by omega)) ?_
                                refine lv_aload_n hx hb dL_passes_303 rfl (lv_at hl 1 rfl) ?_
                                refine lv_iconst (v := nI 2) hx hb dL_passes_304 (by decide) ?_
                                refine h_op (st := [.int (nI (n_wa N1 p))]) C hS hP hD hl.1 (k_count h01 (q := 2) (by decide)) gL_passes_X4_count rfl hd_count ⟨Nat.le_of_ble_eq_true rfl, Nat.le_of_ble_eq_true rfl⟩ rfl rfl (Nat.le_of_ble_eq_true rfl) dL_passes_305 ⟨Nat.le_of_ble_eq_true rfl, Nat.le_of_ble_eq_true rfl⟩ (fun H locs hP hD hS => ?_)
                                refine lv_eqi (y := nI (n_se N1 2)) (g1.se 2 (by omega)) ?_
                                refine lv_icmp_lt (tgt := 325) hx hb dL_passes_308 (by decide) (fun c_22 => ?_) (fun c_22 => ?_)
                                · skip
                                  exact absurd c_22 (nI_nlt (a := (n_wa N1 p)) (b := (n_se N1 2)) (by omega) (by omega))
                                · skip
                                  refine lv_aload_n hx hb dL_passes_311 rfl (lv_at hl 1 rfl) ?_
                                  refine lv_iload hx hb dL_passes_312 (lv_at hl 12 rfl) ?_
                                  refine lv_iconst (v := nI 3) hx hb dL_passes_314 (by decide) ?_
                                  refine h_op (st := []) C hS hP hD hl.1 (k_puddle (p := p) (by omega) (q := 3) (by decide)) gL_passes_X4_puddle rfl hd_puddle ⟨Nat.le_of_ble_eq_true rfl, Nat.le_of_ble_eq_true rfl⟩ rfl rfl (Nat.le_of_ble_eq_true rfl) dL_passes_315 ⟨Nat.le_of_ble_eq_true rfl, Nat.le_of_ble_eq_true rfl⟩ (fun H locs hP hD hS => ?_)
                                  refine lv_eqi (y := nI (bN (n_fz N1) p)) (e_p3 g1 g2 (p := p) (by omega)) ?_
                                  refine lv_if_ne (tgt := 325) hx hb dL_passes_318 (by decide) (fun c_23 => ?_) (fun c_23 => ?_)
                                  · skip
                                    refine lv_iconst (v := nI 0) hx hb dL_passes_325 (by decide) ?_
                                    refine lv_istore (lv' := [(13, .int (nI 0)), (12, .int (nI 1)), (0, .ref B.1.1), (1, .int (nI 10)), (2, .int (nI (snN (n_wa N) 12))), (3, .int (s_fe v.1)), (4, .int (s_dr v.1)), (5, .int (nI (n_fz N))), (6, .int (s_dk v.1)), (7, .int (pmA v.1)), (8, .int (s_dy v.1)), (9, .int (nI (snN (n_wa N) 12))), (10, .int (nI 1)), (11, .int (nI p))]) hx hb dL_passes_326 hl (by decide) rfl (fun ls hl => ?_)
                                    refine lv_iload_n hx hb dL_passes_328 rfl (lv_at hl 3 rfl) ?_
                                    refine lv_bipush (v := nI 10) hx hb dL_passes_329 (by decide) ?_
                                    refine lv_icmp_ne (tgt := 368) hx hb dL_passes_331 (by decide) (fun c_24 => ?_) (fun c_24 => ?_)
                                    · skip
                                      exact absurd (by decide) c_24
                                    · skip
                                      refine lv_aload_n hx hb dL_passes_334 rfl (lv_at hl 2 rfl) ?_
                                      refine lv_iload hx hb dL_passes_335 (lv_at hl 13 rfl) ?_
                                      refine lv_iconst (v := nI 3) hx hb dL_passes_337 (by decide) ?_
                                      refine h_op (st := []) C hS hP hD hl.1 (k_puddle (p := p) (by omega) (q := 3) (by decide)) gL_passes_X4_puddle rfl hd_puddle ⟨Nat.le_of_ble_eq_true rfl, Nat.le_of_ble_eq_true rfl⟩ rfl rfl (Nat.le_of_ble_eq_true rfl) dL_passes_338 ⟨Nat.le_of_ble_eq_true rfl, Nat.le_of_ble_eq_true rfl⟩ (fun H locs hP hD hS => ?_)
                                      refine lv_eqi (y := nI (bN (n_fz N1) p)) (e_p3 g1 g2 (p := p) (by omega)) ?_
                                      refine lv_iload hx hb dL_passes_341 (lv_at hl 1 rfl) ?_
                                      refine lv_if_eq (tgt := 356) hx hb dL_passes_343 (by decide) (fun c_25 => ?_) (fun c_25 => ?_)
                                      · skip
                                        exact absurd c_25 (by decide)
                                      · skip
                                        refine lv_iload hx hb dL_passes_346 (lv_at hl 7 rfl) ?_
                                        refine lv_iload hx hb dL_passes_348 (lv_at hl 13 rfl) ?_
                                        refine lv_ishr hx hb dL_passes_350 ?_
                                        refine lv_iconst (v := nI 1) hx hb dL_passes_351 (by decide) ?_
                                        refine lv_iand hx hb dL_passes_352 ?_
                                        refine lv_eqi (y := nI (bN (n_fz N) p)) (by exact sb_N _ b.fz p (by omega)) ?_
                                        refine lv_goto (tgt := 357) hx hb dL_passes_353 (by decide) ?_
                                        refine lv_icmp_ne (tgt := 364) hx hb dL_passes_357 (by decide) (fun c_26 => ?_) (fun c_26 => ?_)
                                        · skip
                                          exact absurd ((nI_eq (a := (bN (n_fz N1) p)) (b := (bN (n_fz N) p)) (by omega) (by omega)).mpr (by omega)) c_26
                                        · skip
                                          refine lv_iconst (v := nI 1) hx hb dL_passes_360 (by decide) ?_
                                          refine lv_goto (tgt := 393) hx hb dL_passes_361 (by decide) ?_
                                          refine lv_istore (lv' := [(10, .int (nI 1)), (13, .int (nI 0)), (12, .int (nI 1)), (0, .ref B.1.1), (1, .int (nI 10)), (2, .int (nI (snN (n_wa N) 12))), (3, .int (s_fe v.1)), (4, .int (s_dr v.1)), (5, .int (nI (n_fz N))), (6, .int (s_dk v.1)), (7, .int (pmA v.1)), (8, .int (s_dy v.1)), (9, .int (nI (snN (n_wa N) 12))), (11, .int (nI p))]) hx hb dL_passes_393 hl (by decide) rfl (fun ls hl => ?_)
                                          refine lv_iinc (v := nI (p + 1)) (lv' := [(11, .int (nI (p + 1))), (10, .int (nI 1)), (13, .int (nI 0)), (12, .int (nI 1)), (0, .ref B.1.1), (1, .int (nI 10)), (2, .int (nI (snN (n_wa N) 12))), (3, .int (s_fe v.1)), (4, .int (s_dr v.1)), (5, .int (nI (n_fz N))), (6, .int (s_dk v.1)), (7, .int (pmA v.1)), (8, .int (s_dy v.1)), (9, .int (nI (snN (n_wa N) 12)))]) hx hb dL_passes_395 hl (k := 13) rfl (nI_1 _) (by decide) rfl (fun ls hl => ?_)
                                          refine lv_goto (tgt := 265) hx hb dL_passes_398 (by decide) ?_
                                          exact ih (p + 1) (by omega) _ _ _ hP (D_of hD rfl) hS (lv_sub hl [4, 5, 6, 7, 8, 9, 10, 11, 12, 13, 1, 0] rfl)
                                  · skip
                                    exact absurd ((nI_eq (a := (bN (n_fz N1) p)) (b := 0) (by omega) (by omega)).mp c_23) (by omega)
                            · skip
                              rw [if_pos hd] at hf
                              refine lv_aload_n hx hb dL_passes_277 rfl (lv_at hl 0 rfl) ?_
                              refine lv_iload hx hb dL_passes_278 (lv_at hl 11 rfl) ?_
                              refine lv_iconst (v := nI 1) hx hb dL_passes_280 (by decide) ?_
                              refine h_op (st := []) C hS hP hD hl.1 (k_puddle (p := p) (by omega) (q := 1) (by decide)) gL_passes_X4_puddle rfl hd_puddle ⟨Nat.le_of_ble_eq_true rfl, Nat.le_of_ble_eq_true rfl⟩ rfl rfl (Nat.le_of_ble_eq_true rfl) dL_passes_281 ⟨Nat.le_of_ble_eq_true rfl, Nat.le_of_ble_eq_true rfl⟩ (fun H locs hP hD hS => ?_)
                              refine lv_eqi (y := nI (n_wa N1 p)) (e_p1 g1 (p := p) (by omega)) ?_
                              refine lv_bipush (v := nI 19) hx hb dL_passes_284 (by decide) ?_
                              refine lv_icmp_le (tgt := 293) hx hb dL_passes_286 (by decide) (fun c_27 => ?_) (fun c_27 => ?_)
                              · skip
                                exact absurd c_27 (nI_ge (a := 19) (b := (n_wa N1 p)) (by omega) (by omega))
                              · skip
                                refine lv_iconst (v := nI 1) hx hb dL_passes_289 (by decide) ?_
                                refine lv_goto (tgt := 294) hx hb dL_passes_290 (by decide) ?_
                                refine lv_istore (lv' := [(12, .int (nI 1)), (0, .ref B.1.1), (1, .int (nI 10)), (2, .int (nI (snN (n_wa N) 12))), (3, .int (s_fe v.1)), (4, .int (s_dr v.1)), (5, .int (nI (n_fz N))), (6, .int (s_dk v.1)), (7, .int (pmA v.1)), (8, .int (s_dy v.1)), (9, .int (nI (snN (n_wa N) 12))), (10, .int (nI 1)), (11, .int (nI p))]) hx hb dL_passes_294 hl (by decide) rfl (fun ls hl => ?_)
                                refine lv_aload_n hx hb dL_passes_296 rfl (lv_at hl 1 rfl) ?_
                                refine lv_iload hx hb dL_passes_297 (lv_at hl 12 rfl) ?_
                                refine lv_iconst (v := nI 1) hx hb dL_passes_299 (by decide) ?_
                                refine h_op (st := []) C hS hP hD hl.1 (k_puddle (p := p) (by omega) (q := 1) (by decide)) gL_passes_X4_puddle rfl hd_puddle ⟨Nat.le_of_ble_eq_true rfl, Nat.le_of_ble_eq_true rfl⟩ rfl rfl (Nat.le_of_ble_eq_true rfl) dL_passes_300 ⟨Nat.le_of_ble_eq_true rfl, Nat.le_of_ble_eq_true rfl⟩ (fun H locs hP hD hS => ?_)
                                refine lv_eqi (y := nI (n_wa N1 p)) (e_p1 g1 (p := p) (by omega)) ?_
                                refine lv_aload_n hx hb dL_passes_303 rfl (lv_at hl 1 rfl) ?_
                                refine lv_iconst (v := nI 2) hx hb dL_passes_304 (by decide) ?_
                                refine h_op (st := [.int (nI (n_wa N1 p))]) C hS hP hD hl.1 (k_count h01 (q := 2) (by decide)) gL_passes_X4_count rfl hd_count ⟨Nat.le_of_ble_eq_true rfl, Nat.le_of_ble_eq_true rfl⟩ rfl rfl (Nat.le_of_ble_eq_true rfl) dL_passes_305 ⟨Nat.le_of_ble_eq_true rfl, Nat.le_of_ble_eq_true rfl⟩ (fun H locs hP hD hS => ?_)
                                refine lv_eqi (y := nI (n_se N1 2)) (g1.se 2 (by omega)) ?_
                                refine lv_icmp_lt (tgt := 325) hx hb dL_passes_308 (by decide) (fun c_28 => ?_) (fun c_28 => ?_)
                                · skip
                                  exact absurd c_28 (nI_nlt (a := (n_wa N1 p)) (b := (n_se N1 2)) (by omega) (by omega))
                                · skip
                                  refine lv_aload_n hx hb dL_passes_311 rfl (lv_at hl 1 rfl) ?_
                                  refine lv_iload hx hb dL_passes_312 (lv_at hl 12 rfl) ?_
                                  refine lv_iconst (v := nI 3) hx hb dL_passes_314 (by decide) ?_
                                  refine h_op (st := []) C hS hP hD hl.1 (k_puddle (p := p) (by omega) (q := 3) (by decide)) gL_passes_X4_puddle rfl hd_puddle ⟨Nat.le_of_ble_eq_true rfl, Nat.le_of_ble_eq_true rfl⟩ rfl rfl (Nat.le_of_ble_eq_true rfl) dL_passes_315 ⟨Nat.le_of_ble_eq_true rfl, Nat.le_of_ble_eq_true rfl⟩ (fun H locs hP hD hS => ?_)
                                  refine lv_eqi (y := nI (bN (n_fz N1) p)) (e_p3 g1 g2 (p := p) (by omega)) ?_
                                  refine lv_if_ne (tgt := 325) hx hb dL_passes_318 (by decide) (fun c_29 => ?_) (fun c_29 => ?_)
                                  · skip
                                    exact absurd ((nI_eq (a := (bN (n_fz N1) p)) (b := 0) (by omega) (by omega)).mpr (by omega)) c_29
                                  · skip
                                    refine lv_iconst (v := nI 1) hx hb dL_passes_321 (by decide) ?_
                                    refine lv_goto (tgt := 326) hx hb dL_passes_322 (by decide) ?_
                                    refine lv_istore (lv' := [(13, .int (nI 1)), (12, .int (nI 1)), (0, .ref B.1.1), (1, .int (nI 10)), (2, .int (nI (snN (n_wa N) 12))), (3, .int (s_fe v.1)), (4, .int (s_dr v.1)), (5, .int (nI (n_fz N))), (6, .int (s_dk v.1)), (7, .int (pmA v.1)), (8, .int (s_dy v.1)), (9, .int (nI (snN (n_wa N) 12))), (10, .int (nI 1)), (11, .int (nI p))]) hx hb dL_passes_326 hl (by decide) rfl (fun ls hl => ?_)
                                    refine lv_iload_n hx hb dL_passes_328 rfl (lv_at hl 3 rfl) ?_
                                    refine lv_bipush (v := nI 10) hx hb dL_passes_329 (by decide) ?_
                                    refine lv_icmp_ne (tgt := 368) hx hb dL_passes_331 (by decide) (fun c_30 => ?_) (fun c_30 => ?_)
                                    · skip
                                      exact absurd (by decide) c_30
                                    · skip
                                      refine lv_aload_n hx hb dL_passes_334 rfl (lv_at hl 2 rfl) ?_
                                      refine lv_iload hx hb dL_passes_335 (lv_at hl 13 rfl) ?_
                                      refine lv_iconst (v := nI 3) hx hb dL_passes_337 (by decide) ?_
                                      refine h_op (st := []) C hS hP hD hl.1 (k_puddle (p := p) (by omega) (q := 3) (by decide)) gL_passes_X4_puddle rfl hd_puddle ⟨Nat.le_of_ble_eq_true rfl, Nat.le_of_ble_eq_true rfl⟩ rfl rfl (Nat.le_of_ble_eq_true rfl) dL_passes_338 ⟨Nat.le_of_ble_eq_true rfl, Nat.le_of_ble_eq_true rfl⟩ (fun H locs hP hD hS => ?_)
                                      refine lv_eqi (y := nI (bN (n_fz N1) p)) (e_p3 g1 g2 (p := p) (by omega)) ?_
                                      refine lv_iload hx hb dL_passes_341 (lv_at hl 1 rfl) ?_
                                      refine lv_if_eq (tgt := 356) hx hb dL_passes_343 (by decide) (fun c_31 => ?_) (fun c_31 => ?_)
                                      · skip
                                        exact absurd c_31 (by decide)
                                      · skip
                                        refine lv_iload hx hb dL_passes_346 (lv_at hl 7 rfl) ?_
                                        refine lv_iload hx hb dL_passes_348 (lv_at hl 13 rfl) ?_
                                        refine lv_ishr hx hb dL_passes_350 ?_
                                        refine lv_iconst (v := nI 1) hx hb dL_passes_351 (by decide) ?_
                                        refine lv_iand hx hb dL_passes_352 ?_
                                        refine lv_eqi (y := nI (bN (n_fz N) p)) (by exact sb_N _ b.fz p (by omega)) ?_
                                        refine lv_goto (tgt := 357) hx hb dL_passes_353 (by decide) ?_
                                        refine lv_icmp_ne (tgt := 364) hx hb dL_passes_357 (by decide) (fun c_32 => ?_) (fun c_32 => ?_)
                                        · skip
                                          exact absurd ((nI_eq (a := (bN (n_fz N1) p)) (b := (bN (n_fz N) p)) (by omega) (by omega)).mpr (by omega)) c_32
                                        · skip
                                          refine lv_iconst (v := nI 1) hx hb dL_passes_360 (by decide) ?_
                                          refine lv_goto (tgt := 393) hx hb dL_passes_361 (by decide) ?_
                                          refine lv_istore (lv' := [(10, .int (nI 1)), (13, .int (nI 1)), (12, .int (nI 1)), (0, .ref B.1.1), (1, .int (nI 10)), (2, .int (nI (snN (n_wa N) 12))), (3, .int (s_fe v.1)), (4, .int (s_dr v.1)), (5, .int (nI (n_fz N))), (6, .int (s_dk v.1)), (7, .int (pmA v.1)), (8, .int (s_dy v.1)), (9, .int (nI (snN (n_wa N) 12))), (11, .int (nI p))]) hx hb dL_passes_393 hl (by decide) rfl (fun ls hl => ?_)
                                          refine lv_iinc (v := nI (p + 1)) (lv' := [(11, .int (nI (p + 1))), (10, .int (nI 1)), (13, .int (nI 1)), (12, .int (nI 1)), (0, .ref B.1.1), (1, .int (nI 10)), (2, .int (nI (snN (n_wa N) 12))), (3, .int (s_fe v.1)), (4, .int (s_dr v.1)), (5, .int (nI (n_fz N))), (6, .int (s_dk v.1)), (7, .int (pmA v.1)), (8, .int (s_dy v.1)), (9, .int (nI (snN (n_wa N) 12)))]) hx hb dL_passes_395 hl (k := 13) rfl (nI_1 _) (by decide) rfl (fun ls hl => ?_)
                                          refine lv_goto (tgt := 265) hx hb dL_passes_398 (by decide) ?_
                                          exact ih (p + 1) (by omega) _ _ _ hP (D_of hD rfl) hS (lv_sub hl [4, 5, 6, 7, 8, 9, 10, 11, 12, 13, 1, 0] rfl)
                          · skip
                            rcases (show n_wa N p < n_se N 2 ∨ (n_se N 2 ≤ n_wa N p ∧ bN (n_fz N1) p = 1) ∨ (n_se N 2 ≤ n_wa N p ∧ bN (n_fz N1) p = 0) by omega) with hc | hc | hc
                            · skip
                              rw [if_neg hd] at hf
                              refine lv_aload_n hx hb dL_passes_277 rfl (lv_at hl 0 rfl) ?_
                              refine lv_iload hx hb dL_passes_278 (lv_at hl 11 rfl) ?_
                              refine lv_iconst (v := nI 1) hx hb dL_passes_280 (by decide) ?_
                              refine h_op (st := []) C hS hP hD hl.1 (k_puddle (p := p) (by omega) (q := 1) (by decide)) gL_passes_X4_puddle rfl hd_puddle ⟨Nat.le_of_ble_eq_true rfl, Nat.le_of_ble_eq_true rfl⟩ rfl rfl (Nat.le_of_ble_eq_true rfl) dL_passes_281 ⟨Nat.le_of_ble_eq_true rfl, Nat.le_of_ble_eq_true rfl⟩ (fun H locs hP hD hS => ?_)
                              refine lv_eqi (y := nI (n_wa N1 p)) (e_p1 g1 (p := p) (by omega)) ?_
                              refine lv_bipush (v := nI 19) hx hb dL_passes_284 (by decide) ?_
                              refine lv_icmp_le (tgt := 293) hx hb dL_passes_286 (by decide) (fun c_33 => ?_) (fun c_33 => ?_)
                              · skip
                                refine lv_iconst (v := nI 0) hx hb dL_passes_293 (by decide) ?_
                                refine lv_istore (lv' := [(12, .int (nI 0)), (0, .ref B.1.1), (1, .int (nI 10)), (2, .int (nI (snN (n_wa N) 12))), (3, .int (s_fe v.1)), (4, .int (s_dr v.1)), (5, .int (nI (n_fz N))), (6, .int (s_dk v.1)), (7, .int (pmA v.1)), (8, .int (s_dy v.1)), (9, .int (nI (snN (n_wa N) 12))), (10, .int (nI 1)), (11, .int (nI p))]) hx hb dL_passes_294 hl (by decide) rfl (fun ls hl => ?_)
                                refine lv_aload_n hx hb dL_passes_296 rfl (lv_at hl 1 rfl) ?_
                                refine lv_iload hx hb dL_passes_297 (lv_at hl 12 rfl) ?_
                                refine lv_iconst (v := nI 1) hx hb dL_passes_299 (by decide) ?_
                                refine h_op (st := []) C hS hP hD hl.1 (k_puddle (p := p) (by omega) (q := 1) (by decide)) gL_passes_X4_puddle rfl hd_puddle ⟨Nat.le_of_ble_eq_true rfl, Nat.le_of_ble_eq_true rfl⟩ rfl rfl (Nat.le_of_ble_eq_true rfl) dL_passes_300 ⟨Nat.le_of_ble_eq_true rfl, Nat.le_of_ble_eq_true rfl⟩ (fun H locs hP hD hS => ?_)
                                refine lv_eqi (y := nI (n_wa N1 p)) (e_p1 g1 (p := p) (by omega)) ?_
                                refine lv_aload_n hx hb dL_passes_303 rfl (lv_at hl 1 rfl) ?_
                                refine lv_iconst (v := nI 2) hx hb dL_passes_304 (by decide) ?_
                                refine h_op (st := [.int (nI (n_wa N1 p))]) C hS hP hD hl.1 (k_count h01 (q := 2) (by decide)) gL_passes_X4_count rfl hd_count ⟨Nat.le_of_ble_eq_true rfl, Nat.le_of_ble_eq_true rfl⟩ rfl rfl (Nat.le_of_ble_eq_true rfl) dL_passes_305 ⟨Nat.le_of_ble_eq_true rfl, Nat.le_of_ble_eq_true rfl⟩ (fun H locs hP hD hS => ?_)
                                refine lv_eqi (y := nI (n_se N1 2)) (g1.se 2 (by omega)) ?_
                                refine lv_icmp_lt (tgt := 325) hx hb dL_passes_308 (by decide) (fun c_34 => ?_) (fun c_34 => ?_)
                                · skip
                                  refine lv_iconst (v := nI 0) hx hb dL_passes_325 (by decide) ?_
                                  refine lv_istore (lv' := [(13, .int (nI 0)), (12, .int (nI 0)), (0, .ref B.1.1), (1, .int (nI 10)), (2, .int (nI (snN (n_wa N) 12))), (3, .int (s_fe v.1)), (4, .int (s_dr v.1)), (5, .int (nI (n_fz N))), (6, .int (s_dk v.1)), (7, .int (pmA v.1)), (8, .int (s_dy v.1)), (9, .int (nI (snN (n_wa N) 12))), (10, .int (nI 1)), (11, .int (nI p))]) hx hb dL_passes_326 hl (by decide) rfl (fun ls hl => ?_)
                                  refine lv_iload_n hx hb dL_passes_328 rfl (lv_at hl 3 rfl) ?_
                                  refine lv_bipush (v := nI 10) hx hb dL_passes_329 (by decide) ?_
                                  refine lv_icmp_ne (tgt := 368) hx hb dL_passes_331 (by decide) (fun c_35 => ?_) (fun c_35 => ?_)
                                  · skip
                                    exact absurd (by decide) c_35
                                  · skip
                                    refine lv_aload_n hx hb dL_passes_334 rfl (lv_at hl 2 rfl) ?_
                                    refine lv_iload hx hb dL_passes_335 (lv_at hl 13 rfl) ?_
                                    refine lv_iconst (v := nI 3) hx hb dL_passes_337 (by decide) ?_
                                    refine h_op (st := []) C hS hP hD hl.1 (k_puddle (p := p) (by omega) (q := 3) (by decide)) gL_passes_X4_puddle rfl hd_puddle ⟨Nat.le_of_ble_eq_true rfl, Nat.le_of_ble_eq_true rfl⟩ rfl rfl (Nat.le_of_ble_eq_true rfl) dL_passes_338 ⟨Nat.le_of_ble_eq_true rfl, Nat.le_of_ble_eq_true rfl⟩ (fun H locs hP hD hS => ?_)
                                    refine lv_eqi (y := nI (bN (n_fz N1) p)) (e_p3 g1 g2 (p := p) (by omega)) ?_
                                    refine lv_iload hx hb dL_passes_341 (lv_at hl 1 rfl) ?_
                                    refine lv_if_eq (tgt := 356) hx hb dL_passes_343 (by decide) (fun c_36 => ?_) (fun c_36 => ?_)
                                    · skip
                                      refine lv_iconst (v := nI 1) hx hb dL_passes_356 (by decide) ?_
                                      refine lv_icmp_ne (tgt := 364) hx hb dL_passes_357 (by decide) (fun c_37 => ?_) (fun c_37 => ?_)
                                      · skip
                                        exact absurd ((nI_eq (a := (bN (n_fz N1) p)) (b := 1) (by omega) (by omega)).mpr (by omega)) c_37
                                      · skip
                                        refine lv_iconst (v := nI 1) hx hb dL_passes_360 (by decide) ?_
                                        refine lv_goto (tgt := 393) hx hb dL_passes_361 (by decide) ?_
                                        refine lv_istore (lv' := [(10, .int (nI 1)), (13, .int (nI 0)), (12, .int (nI 0)), (0, .ref B.1.1), (1, .int (nI 10)), (2, .int (nI (snN (n_wa N) 12))), (3, .int (s_fe v.1)), (4, .int (s_dr v.1)), (5, .int (nI (n_fz N))), (6, .int (s_dk v.1)), (7, .int (pmA v.1)), (8, .int (s_dy v.1)), (9, .int (nI (snN (n_wa N) 12))), (11, .int (nI p))]) hx hb dL_passes_393 hl (by decide) rfl (fun ls hl => ?_)
                                        refine lv_iinc (v := nI (p + 1)) (lv' := [(11, .int (nI (p + 1))), (10, .int (nI 1)), (13, .int (nI 0)), (12, .int (nI 0)), (0, .ref B.1.1), (1, .int (nI 10)), (2, .int (nI (snN (n_wa N) 12))), (3, .int (s_fe v.1)), (4, .int (s_dr v.1)), (5, .int (nI (n_fz N))), (6, .int (s_dk v.1)), (7, .int (pmA v.1)), (8, .int (s_dy v.1)), (9, .int (nI (snN (n_wa N) 12)))]) hx hb dL_passes_395 hl (k := 13) rfl (nI_1 _) (by decide) rfl (fun ls hl => ?_)
                                        refine lv_goto (tgt := 265) hx hb dL_passes_398 (by decide) ?_
                                        exact ih (p + 1) (by omega) _ _ _ hP (D_of hD rfl) hS (lv_sub hl [4, 5, 6, 7, 8, 9, 10, 11, 12, 13, 1, 0] rfl)
                                    · skip
                                      exact absurd (by decide) c_36
                                · skip
                                  exact absurd (nI_lt (a := (n_wa N1 p)) (b := (n_se N1 2)) (by omega) (by omega)) c_34
                              · skip
                                exact absurd (nI_le (a := (n_wa N1 p)) (b := 19) (by omega) (by omega)) c_33
                            · skip
                              rw [if_neg hd] at hf
                              refine lv_aload_n hx hb dL_passes_277 rfl (lv_at hl 0 rfl) ?_
                              refine lv_iload hx hb dL_passes_278 (lv_at hl 11 rfl) ?_
                              refine lv_iconst (v := nI 1) hx hb dL_passes_280 (by decide) ?_
                              refine h_op (st := []) C hS hP hD hl.1 (k_puddle (p := p) (by omega) (q := 1) (by decide)) gL_passes_X4_puddle rfl hd_puddle ⟨Nat.le_of_ble_eq_true rfl, Nat.le_of_ble_eq_true rfl⟩ rfl rfl (Nat.le_of_ble_eq_true rfl) dL_passes_281 ⟨Nat.le_of_ble_eq_true rfl, Nat.le_of_ble_eq_true rfl⟩ (fun H locs hP hD hS => ?_)
                              refine lv_eqi (y := nI (n_wa N1 p)) (e_p1 g1 (p := p) (by omega)) ?_
                              refine lv_bipush (v := nI 19) hx hb dL_passes_284 (by decide) ?_
                              refine lv_icmp_le (tgt := 293) hx hb dL_passes_286 (by decide) (fun c_38 => ?_) (fun c_38 => ?_)
                              · skip
                                refine lv_iconst (v := nI 0) hx hb dL_passes_293 (by decide) ?_
                                refine lv_istore (lv' := [(12, .int (nI 0)), (0, .ref B.1.1), (1, .int (nI 10)), (2, .int (nI (snN (n_wa N) 12))), (3, .int (s_fe v.1)), (4, .int (s_dr v.1)), (5, .int (nI (n_fz N))), (6, .int (s_dk v.1)), (7, .int (pmA v.1)), (8, .int (s_dy v.1)), (9, .int (nI (snN (n_wa N) 12))), (10, .int (nI 1)), (11, .int (nI p))]) hx hb dL_passes_294 hl (by decide) rfl (fun ls hl => ?_)
                                refine lv_aload_n hx hb dL_passes_296 rfl (lv_at hl 1 rfl) ?_
                                refine lv_iload hx hb dL_passes_297 (lv_at hl 12 rfl) ?_
                                refine lv_iconst (v := nI 1) hx hb dL_passes_299 (by decide) ?_
                                refine h_op (st := []) C hS hP hD hl.1 (k_puddle (p := p) (by omega) (q := 1) (by decide)) gL_passes_X4_puddle rfl hd_puddle ⟨Nat.le_of_ble_eq_true rfl, Nat.le_of_ble_eq_true rfl⟩ rfl rfl (Nat.le_of_ble_eq_true rfl) dL_passes_300 ⟨Nat.le_of_ble_eq_true rfl, Nat.le_of_ble_eq_true rfl⟩ (fun H locs hP hD hS => ?_)
                                refine lv_eqi (y := nI (n_wa N1 p)) (e_p1 g1 (p := p) (by omega)) ?_
                                refine lv_aload_n hx hb dL_passes_303 rfl (lv_at hl 1 rfl) ?_
                                refine lv_iconst (v := nI 2) hx hb dL_passes_304 (by decide) ?_
                                refine h_op (st := [.int (nI (n_wa N1 p))]) C hS hP hD hl.1 (k_count h01 (q := 2) (by decide)) gL_passes_X4_count rfl hd_count ⟨Nat.le_of_ble_eq_true rfl, Nat.le_of_ble_eq_true rfl⟩ rfl rfl (Nat.le_of_ble_eq_true rfl) dL_passes_305 ⟨Nat.le_of_ble_eq_true rfl, Nat.le_of_ble_eq_true rfl⟩ (fun H locs hP hD hS => ?_)
                                refine lv_eqi (y := nI (n_se N1 2)) (g1.se 2 (by omega)) ?_
                                refine lv_icmp_lt (tgt := 325) hx hb dL_passes_308 (by decide) (fun c_39 => ?_) (fun c_39 => ?_)
                                · skip
                                  exact absurd c_39 (nI_nlt (a := (n_wa N1 p)) (b := (n_se N1 2)) (by omega) (by omega))
                                · skip
                                  refine lv_aload_n hx hb dL_passes_311 rfl (lv_at hl 1 rfl) ?_
                                  refine lv_iload hx hb dL_passes_312 (lv_at hl 12 rfl) ?_
                                  refine lv_iconst (v := nI 3) hx hb dL_passes_314 (by decide) ?_
                                  refine h_op (st := []) C hS hP hD hl.1 (k_puddle (p := p) (by omega) (q := 3) (by decide)) gL_passes_X4_puddle rfl hd_puddle ⟨Nat.le_of_ble_eq_true rfl, Nat.le_of_ble_eq_true rfl⟩ rfl rfl (Nat.le_of_ble_eq_true rfl) dL_passes_315 ⟨Nat.le_of_ble_eq_true rfl, Nat.le_of_ble_eq_true rfl⟩ (fun H locs hP hD hS => ?_)
                                  refine lv_eqi (y := nI (bN (n_fz N1) p)) (e_p3 g1 g2 (p := p) (by omega)) ?_
                                  refine lv_if_ne (tgt := 325) hx hb dL_passes_318 (by decide) (fun c_40 => ?_) (fun c_40 => ?_)
                                  · skip
                                    refine lv_iconst (v := nI 0) hx hb dL_passes_325 (by decide) ?_
                                    refine lv_istore (lv' := [(13, .int (nI 0)), (12, .int (nI 0)), (0, .ref B.1.1), (1, .int (nI 10)), (2, .int (nI (snN (n_wa N) 12))), (3, .int (s_fe v.1)), (4, .int (s_dr v.1)), (5, .int (nI (n_fz N))), (6, .int (s_dk v.1)), (7, .int (pmA v.1)), (8, .int (s_dy v.1)), (9, .int (nI (snN (n_wa N) 12))), (10, .int (nI 1)), (11, .int (nI p))]) hx hb dL_passes_326 hl (by decide) rfl (fun ls hl => ?_)
                                    refine lv_iload_n hx hb dL_passes_328 rfl (lv_at hl 3 rfl) ?_
                                    refine lv_bipush (v := nI 10) hx hb dL_passes_329 (by decide) ?_
                                    refine lv_icmp_ne (tgt := 368) hx hb dL_passes_331 (by decide) (fun c_41 => ?_) (fun c_41 => ?_)
                                    · skip
                                      exact absurd (by decide) c_41
                                    · skip
                                      refine lv_aload_n hx hb dL_passes_334 rfl (lv_at hl 2 rfl) ?_
                                      refine lv_iload hx hb dL_passes_335 (lv_at hl 13 rfl) ?_
                                      refine lv_iconst (v := nI 3) hx hb dL_passes_337 (by decide) ?_
                                      refine h_op (st := []) C hS hP hD hl.1 (k_puddle (p := p) (by omega) (q := 3) (by decide)) gL_passes_X4_puddle rfl hd_puddle ⟨Nat.le_of_ble_eq_true rfl, Nat.le_of_ble_eq_true rfl⟩ rfl rfl (Nat.le_of_ble_eq_true rfl) dL_passes_338 ⟨Nat.le_of_ble_eq_true rfl, Nat.le_of_ble_eq_true rfl⟩ (fun H locs hP hD hS => ?_)
                                      refine lv_eqi (y := nI (bN (n_fz N1) p)) (e_p3 g1 g2 (p := p) (by omega)) ?_
                                      refine lv_iload hx hb dL_passes_341 (lv_at hl 1 rfl) ?_
                                      refine lv_if_eq (tgt := 356) hx hb dL_passes_343 (by decide) (fun c_42 => ?_) (fun c_42 => ?_)
                                      · skip
                                        refine lv_iconst (v := nI 1) hx hb dL_passes_356 (by decide) ?_
                                        refine lv_icmp_ne (tgt := 364) hx hb dL_passes_357 (by decide) (fun c_43 => ?_) (fun c_43 => ?_)
                                        · skip
                                          exact absurd ((nI_eq (a := (bN (n_fz N1) p)) (b := 1) (by omega) (by omega)).mpr (by omega)) c_43
                                        · skip
                                          refine lv_iconst (v := nI 1) hx hb dL_passes_360 (by decide) ?_
                                          refine lv_goto (tgt := 393) hx hb dL_passes_361 (by decide) ?_
                                          refine lv_istore (lv' := [(10, .int (nI 1)), (13, .int (nI 0)), (12, .int (nI 0)), (0, .ref B.1.1), (1, .int (nI 10)), (2, .int (nI (snN (n_wa N) 12))), (3, .int (s_fe v.1)), (4, .int (s_dr v.1)), (5, .int (nI (n_fz N))), (6, .int (s_dk v.1)), (7, .int (pmA v.1)), (8, .int (s_dy v.1)), (9, .int (nI (snN (n_wa N) 12))), (11, .int (nI p))]) hx hb dL_passes_393 hl (by decide) rfl (fun ls hl => ?_)
                                          refine lv_iinc (v := nI (p + 1)) (lv' := [(11, .int (nI (p + 1))), (10, .int (nI 1)), (13, .int (nI 0)), (12, .int (nI 0)), (0, .ref B.1.1), (1, .int (nI 10)), (2, .int (nI (snN (n_wa N) 12))), (3, .int (s_fe v.1)), (4, .int (s_dr v.1)), (5, .int (nI (n_fz N))), (6, .int (s_dk v.1)), (7, .int (pmA v.1)), (8, .int (s_dy v.1)), (9, .int (nI (snN (n_wa N) 12)))]) hx hb dL_passes_395 hl (k := 13) rfl (nI_1 _) (by decide) rfl (fun ls hl => ?_)
                                          refine lv_goto (tgt := 265) hx hb dL_passes_398 (by decide) ?_
                                          exact ih (p + 1) (by omega) _ _ _ hP (D_of hD rfl) hS (lv_sub hl [4, 5, 6, 7, 8, 9, 10, 11, 12, 13, 1, 0] rfl)
                                      · skip
                                        exact absurd (by decide) c_42
                                  · skip
                                    exact absurd ((nI_eq (a := (bN (n_fz N1) p)) (b := 0) (by omega) (by omega)).mp c_40) (by omega)
                              · skip
                                exact absurd (nI_le (a := (n_wa N1 p)) (b := 19) (by omega) (by omega)) c_38
                            · skip
                              rw [if_neg hd] at hf
                              refine lv_aload_n hx hb dL_passes_277 rfl (lv_at hl 0 rfl) ?_
                              refine lv_iload hx hb dL_passes_278 (lv_at hl 11 rfl) ?_
                              refine lv_iconst (v := nI 1) hx hb dL_passes_280 (by decide) ?_
                              refine h_op (st := []) C hS hP hD hl.1 (k_puddle (p := p) (by omega) (q := 1) (by decide)) gL_passes_X4_puddle rfl hd_puddle ⟨Nat.le_of_ble_eq_true rfl, Nat.le_of_ble_eq_true rfl⟩ rfl rfl (Nat.le_of_ble_eq_true rfl) dL_passes_281 ⟨Nat.le_of_ble_eq_true rfl, Nat.le_of_ble_eq_true rfl⟩ (fun H locs hP hD hS => ?_)
                              refine lv_eqi (y := nI (n_wa N1 p)) (e_p1 g1 (p := p) (by omega)) ?_
                              refine lv_bipush (v := nI 19) hx hb dL_passes_284 (by decide) ?_
                              refine lv_icmp_le (tgt := 293) hx hb dL_passes_286 (by decide) (fun c_44 => ?_) (fun c_44 => ?_)
                              · skip
                                refine lv_iconst (v := nI 0) hx hb dL_passes_293 (by decide) ?_
                                refine lv_istore (lv' := [(12, .int (nI 0)), (0, .ref B.1.1), (1, .int (nI 10)), (2, .int (nI (snN (n_wa N) 12))), (3, .int (s_fe v.1)), (4, .int (s_dr v.1)), (5, .int (nI (n_fz N))), (6, .int (s_dk v.1)), (7, .int (pmA v.1)), (8, .int (s_dy v.1)), (9, .int (nI (snN (n_wa N) 12))), (10, .int (nI 1)), (11, .int (nI p))]) hx hb dL_passes_294 hl (by decide) rfl (fun ls hl => ?_)
                                refine lv_aload_n hx hb dL_passes_296 rfl (lv_at hl 1 rfl) ?_
                                refine lv_iload hx hb dL_passes_297 (lv_at hl 12 rfl) ?_
                                refine lv_iconst (v := nI 1) hx hb dL_passes_299 (by decide) ?_
                                refine h_op (st := []) C hS hP hD hl.1 (k_puddle (p := p) (by omega) (q := 1) (by decide)) gL_passes_X4_puddle rfl hd_puddle ⟨Nat.le_of_ble_eq_true rfl, Nat.le_of_ble_eq_true rfl⟩ rfl rfl (Nat.le_of_ble_eq_true rfl) dL_passes_300 ⟨Nat.le_of_ble_eq_true rfl, Nat.le_of_ble_eq_true rfl⟩ (fun H locs hP hD hS => ?_)
                                refine lv_eqi (y := nI (n_wa N1 p)) (e_p1 g1 (p := p) (by omega)) ?_
                                refine lv_aload_n hx hb dL_passes_303 rfl (lv_at hl 1 rfl) ?_
                                refine lv_iconst (v := nI 2) hx hb dL_passes_304 (by decide) ?_
                                refine h_op (st := [.int (nI (n_wa N1 p))]) C hS hP hD hl.1 (k_count h01 (q := 2) (by decide)) gL_passes_X4_count rfl hd_count ⟨Nat.le_of_ble_eq_true rfl, Nat.le_of_ble_eq_true rfl⟩ rfl rfl (Nat.le_of_ble_eq_true rfl) dL_passes_305 ⟨Nat.le_of_ble_eq_true rfl, Nat.le_of_ble_eq_true rfl⟩ (fun H locs hP hD hS => ?_)
                                refine lv_eqi (y := nI (n_se N1 2)) (g1.se 2 (by omega)) ?_
                                refine lv_icmp_lt (tgt := 325) hx hb dL_passes_308 (by decide) (fun c_45 => ?_) (fun c_45 => ?_)
                                · skip
                                  exact absurd c_45 (nI_nlt (a := (n_wa N1 p)) (b := (n_se N1 2)) (by omega) (by omega))
                                · skip
                                  refine lv_aload_n hx hb dL_passes_311 rfl (lv_at hl 1 rfl) ?_
                                  refine lv_iload hx hb dL_passes_312 (lv_at hl 12 rfl) ?_
                                  refine lv_iconst (v := nI 3) hx hb dL_passes_314 (by decide) ?_
                                  refine h_op (st := []) C hS hP hD hl.1 (k_puddle (p := p) (by omega) (q := 3) (by decide)) gL_passes_X4_puddle rfl hd_puddle ⟨Nat.le_of_ble_eq_true rfl, Nat.le_of_ble_eq_true rfl⟩ rfl rfl (Nat.le_of_ble_eq_true rfl) dL_passes_315 ⟨Nat.le_of_ble_eq_true rfl, Nat.le_of_ble_eq_true rfl⟩ (fun H locs hP hD hS => ?_)
                                  refine lv_eqi (y := nI (bN (n_fz N1) p)) (e_p3 g1 g2 (p := p) (by omega)) ?_
                                  refine lv_if_ne (tgt := 325) hx hb dL_passes_318 (by decide) (fun c_46 => ?_) (fun c_46 => ?_)
                                  · skip
                                    exact absurd ((nI_eq (a := (bN (n_fz N1) p)) (b := 0) (by omega) (by omega)).mpr (by omega)) c_46
                                  · skip
                                    refine lv_iconst (v := nI 1) hx hb dL_passes_321 (by decide) ?_
                                    refine lv_goto (tgt := 326) hx hb dL_passes_322 (by decide) ?_
                                    refine lv_istore (lv' := [(13, .int (nI 1)), (12, .int (nI 0)), (0, .ref B.1.1), (1, .int (nI 10)), (2, .int (nI (snN (n_wa N) 12))), (3, .int (s_fe v.1)), (4, .int (s_dr v.1)), (5, .int (nI (n_fz N))), (6, .int (s_dk v.1)), (7, .int (pmA v.1)), (8, .int (s_dy v.1)), (9, .int (nI (snN (n_wa N) 12))), (10, .int (nI 1)), (11, .int (nI p))]) hx hb dL_passes_326 hl (by decide) rfl (fun ls hl => ?_)
                                    refine lv_iload_n hx hb dL_passes_328 rfl (lv_at hl 3 rfl) ?_
                                    refine lv_bipush (v := nI 10) hx hb dL_passes_329 (by decide) ?_
                                    refine lv_icmp_ne (tgt := 368) hx hb dL_passes_331 (by decide) (fun c_47 => ?_) (fun c_47 => ?_)
                                    · skip
                                      exact absurd (by decide) c_47
                                    · skip
                                      refine lv_aload_n hx hb dL_passes_334 rfl (lv_at hl 2 rfl) ?_
                                      refine lv_iload hx hb dL_passes_335 (lv_at hl 13 rfl) ?_
                                      refine lv_iconst (v := nI 3) hx hb dL_passes_337 (by decide) ?_
                                      refine h_op (st := []) C hS hP hD hl.1 (k_puddle (p := p) (by omega) (q := 3) (by decide)) gL_passes_X4_puddle rfl hd_puddle ⟨Nat.le_of_ble_eq_true rfl, Nat.le_of_ble_eq_true rfl⟩ rfl rfl (Nat.le_of_ble_eq_true rfl) dL_passes_338 ⟨Nat.le_of_ble_eq_true rfl, Nat.le_of_ble_eq_true rfl⟩ (fun H locs hP hD hS => ?_)
                                      refine lv_eqi (y := nI (bN (n_fz N1) p)) (e_p3 g1 g2 (p := p) (by omega)) ?_
                                      refine lv_iload hx hb dL_passes_341 (lv_at hl 1 rfl) ?_
                                      refine lv_if_eq (tgt := 356) hx hb dL_passes_343 (by decide) (fun c_48 => ?_) (fun c_48 => ?_)
                                      · skip
                                        refine lv_iconst (v := nI 1) hx hb dL_passes_356 (by decide) ?_
                                        refine lv_icmp_ne (tgt := 364) hx hb dL_passes_357 (by decide) (fun c_49 => ?_) (fun c_49 => ?_)
                                        · skip
                                          exact absurd ((nI_eq (a := (bN (n_fz N1) p)) (b := 1) (by omega) (by omega)).mpr (by omega)) c_49
                                        · skip
                                          refine lv_iconst (v := nI 1) hx hb dL_passes_360 (by decide) ?_
                                          refine lv_goto (tgt := 393) hx hb dL_passes_361 (by decide) ?_
                                          refine lv_istore (lv' := [(10, .int (nI 1)), (13, .int (nI 1)), (12, .int (nI 0)), (0, .ref B.1.1), (1, .int (nI 10)), (2, .int (nI (snN (n_wa N) 12))), (3, .int (s_fe v.1)), (4, .int (s_dr v.1)), (5, .int (nI (n_fz N))), (6, .int (s_dk v.1)), (7, .int (pmA v.1)), (8, .int (s_dy v.1)), (9, .int (nI (snN (n_wa N) 12))), (11, .int (nI p))]) hx hb dL_passes_393 hl (by decide) rfl (fun ls hl => ?_)
                                          refine lv_iinc (v := nI (p + 1)) (lv' := [(11, .int (nI (p + 1))), (10, .int (nI 1)), (13, .int (nI 1)), (12, .int (nI 0)), (0, .ref B.1.1), (1, .int (nI 10)), (2, .int (nI (snN (n_wa N) 12))), (3, .int (s_fe v.1)), (4, .int (s_dr v.1)), (5, .int (nI (n_fz N))), (6, .int (s_dk v.1)), (7, .int (pmA v.1)), (8, .int (s_dy v.1)), (9, .int (nI (snN (n_wa N) 12)))]) hx hb dL_passes_395 hl (k := 13) rfl (nI_1 _) (by decide) rfl (fun ls hl => ?_)
                                          refine lv_goto (tgt := 265) hx hb dL_passes_398 (by decide) ?_
                                          exact ih (p + 1) (by omega) _ _ _ hP (D_of hD rfl) hS (lv_sub hl [4, 5, 6, 7, 8, 9, 10, 11, 12, 13, 1, 0] rfl)
                                      · skip
                                        exact absurd (by decide) c_48
                              · skip
                                exact absurd (nI_le (a := (n_wa N1 p)) (b := 19) (by omega) (by omega)) c_44
                  exact loop_265 n12 0 (by omega) _ _ _ hP (D_of hD rfl) hS (lv_sub hl [10, 11, 9, 8, 7, 6, 5, 4, 3, 2, 1, 0] rfl)
                · skip
                  exact absurd (by decide) c_8
              · skip
                exact absurd c_7 (by decide)
    · skip
      exact absurd c_2 (by decide)
set_option maxHeartbeats 4000000 in
set_option maxRecDepth 100000 in
theorem c_L_passes_end (l : Launch) (G : va_G) (ca : Nat → ClassId) (tL tM : Nat) (B : AD) (v : VV) (n : Nat) (hs : Nat → SS) (u : Nat → Option SS) (N : NN) (bd : Nat) (hbd : bd ≤ 100) (hR : Ab B v n hs u) (h : Rn v.1 N) (b : Bd bd N) : ∃ v1 : VV, Gd (bd + 1) v1.1 ∧ Ab B v1 (recN n) (consS v.1 hs) u ∧ CtS l yL_passes wsL_passes rmA [.ref B.1.1, .int (nI 11)] G ca tL tM (XV ca B v) (XV ca B v1) (nI 1) := by
  have h0 := hR.1
  obtain ⟨n12, h12⟩ : ∃ n, n = 12 := ⟨_, rfl⟩
  obtain ⟨n6, h6⟩ : ∃ n, n = 6 := ⟨_, rfl⟩
  have hbf := b.fz
  have hbk := b.dk
  have hpb : pmN N ≤ 12 * 6 := snN_le 6 (fun w _ => popN_le _ 12)
  have hw7 : snN (n_wa N) 12 ≤ 60 * 12 := snN_le 12 (fun k hk => by have := b.wb k hk; omega)
  have hdy := b.dy
  obtain ⟨v1, hv1, hR1, hk⟩ := k_pass (l := l) (G := G) (ca := ca) (tL := tL) (tM := tM) (x := nI 11) (n6 := n6) (n12 := n12) hR (by decide) (by decide) (fun q => by have q2 := q.2; rw [h.dy] at q2; exact absurd q2 (nI_ge (b := 9999) (by omega) (by omega))) h6 h12
  obtain ⟨N1, g⟩ := p_end (n6 := n6) h b h6 h12
  rw [← hv1] at g
  obtain ⟨g1, g2, g_wa2, g_se2, g_fz2, g_bit, g_pm, g_wa, g_se, g_fe, g_fz, g_dy⟩ := g
  have h01 := hR1.1
  refine ⟨v1, ⟨N1, g1, g2⟩, hR1, ?_⟩
  refine CtS.ofW (cc := cL_passes) (maxL := 14) (rt := .boolean) (by decide) rfl (Nat.le_of_ble_eq_true rfl) rfl ?_
  intro pr en s m be me c A ls Q H hx hb hml hts hown hev hP hD hA hS hl hX hret
  have C : HC pr s m c cL_passes ([.ref B.1.1, .int (nI 11)] : List Value).toArray wsL_passes 14 G ca tL tM A := ⟨hx, hb, hml, hown, hts, hev, hX, hA⟩
  have hown : s.vm.findClass RL = some m.cls := hown
  have hl : lv_has ls 14 [(0, .ref B.1.1), (1, .int (nI 11))] := hl
  refine lv_aload_n hx hb dL_passes_0 rfl (lv_at hl 0 rfl) ?_
  refine lv_iconst (v := nI 5) hx hb dL_passes_1 (by decide) ?_
  refine h_op (st := []) C hS hP hD hl.1 (k_count h0 (q := 5) (by decide)) gL_passes_X4_count rfl hd_count ⟨Nat.le_of_ble_eq_true rfl, Nat.le_of_ble_eq_true rfl⟩ rfl rfl (Nat.le_of_ble_eq_true rfl) dL_passes_2 ⟨Nat.le_of_ble_eq_true rfl, Nat.le_of_ble_eq_true rfl⟩ (fun H locs hP hD hS => ?_)
  refine lv_eqi (y := nI (snN (n_wa N) 12)) (e_c5 h) ?_
  refine lv_istore_n (lv' := [(2, .int (nI (snN (n_wa N) 12))), (0, .ref B.1.1), (1, .int (nI 11))]) hx hb dL_passes_5 rfl hl (by decide) rfl (fun ls hl => ?_)
  refine lv_aload_n hx hb dL_passes_6 rfl (lv_at hl 1 rfl) ?_
  refine lv_bipush (v := nI 6) hx hb dL_passes_7 (by decide) ?_
  refine h_op (st := []) C hS hP hD hl.1 (k_count h0 (q := 6) (by decide)) gL_passes_X4_count rfl hd_count ⟨Nat.le_of_ble_eq_true rfl, Nat.le_of_ble_eq_true rfl⟩ rfl rfl (Nat.le_of_ble_eq_true rfl) dL_passes_9 ⟨Nat.le_of_ble_eq_true rfl, Nat.le_of_ble_eq_true rfl⟩ (fun H locs hP hD hS => ?_)
  refine lv_eqi (y := s_fe v.1) (rfl) ?_
  refine lv_istore_n (lv' := [(3, .int (s_fe v.1)), (2, .int (nI (snN (n_wa N) 12))), (0, .ref B.1.1), (1, .int (nI 11))]) hx hb dL_passes_12 rfl hl (by decide) rfl (fun ls hl => ?_)
  refine lv_aload_n hx hb dL_passes_13 rfl (lv_at hl 2 rfl) ?_
  refine lv_bipush (v := nI 7) hx hb dL_passes_14 (by decide) ?_
  refine h_op (st := []) C hS hP hD hl.1 (k_count h0 (q := 7) (by decide)) gL_passes_X4_count rfl hd_count ⟨Nat.le_of_ble_eq_true rfl, Nat.le_of_ble_eq_true rfl⟩ rfl rfl (Nat.le_of_ble_eq_true rfl) dL_passes_16 ⟨Nat.le_of_ble_eq_true rfl, Nat.le_of_ble_eq_true rfl⟩ (fun H locs hP hD hS => ?_)
  refine lv_eqi (y := s_dr v.1) (rfl) ?_
  refine lv_istore (lv' := [(4, .int (s_dr v.1)), (3, .int (s_fe v.1)), (2, .int (nI (snN (n_wa N) 12))), (0, .ref B.1.1), (1, .int (nI 11))]) hx hb dL_passes_19 hl (by decide) rfl (fun ls hl => ?_)
  refine lv_aload_n hx hb dL_passes_21 rfl (lv_at hl 3 rfl) ?_
  refine lv_bipush (v := nI 9) hx hb dL_passes_22 (by decide) ?_
  refine h_op (st := []) C hS hP hD hl.1 (k_count h0 (q := 9) (by decide)) gL_passes_X4_count rfl hd_count ⟨Nat.le_of_ble_eq_true rfl, Nat.le_of_ble_eq_true rfl⟩ rfl rfl (Nat.le_of_ble_eq_true rfl) dL_passes_24 ⟨Nat.le_of_ble_eq_true rfl, Nat.le_of_ble_eq_true rfl⟩ (fun H locs hP hD hS => ?_)
  refine lv_eqi (y := nI (n_fz N)) (h.fz) ?_
  refine lv_istore (lv' := [(5, .int (nI (n_fz N))), (4, .int (s_dr v.1)), (3, .int (s_fe v.1)), (2, .int (nI (snN (n_wa N) 12))), (0, .ref B.1.1), (1, .int (nI 11))]) hx hb dL_passes_27 hl (by decide) rfl (fun ls hl => ?_)
  refine lv_aload_n hx hb dL_passes_29 rfl (lv_at hl 4 rfl) ?_
  refine lv_bipush (v := nI 10) hx hb dL_passes_30 (by decide) ?_
  refine h_op (st := []) C hS hP hD hl.1 (k_count h0 (q := 10) (by decide)) gL_passes_X4_count rfl hd_count ⟨Nat.le_of_ble_eq_true rfl, Nat.le_of_ble_eq_true rfl⟩ rfl rfl (Nat.le_of_ble_eq_true rfl) dL_passes_32 ⟨Nat.le_of_ble_eq_true rfl, Nat.le_of_ble_eq_true rfl⟩ (fun H locs hP hD hS => ?_)
  refine lv_eqi (y := s_dk v.1) (rfl) ?_
  refine lv_istore (lv' := [(6, .int (s_dk v.1)), (5, .int (nI (n_fz N))), (4, .int (s_dr v.1)), (3, .int (s_fe v.1)), (2, .int (nI (snN (n_wa N) 12))), (0, .ref B.1.1), (1, .int (nI 11))]) hx hb dL_passes_35 hl (by decide) rfl (fun ls hl => ?_)
  refine lv_aload_n hx hb dL_passes_37 rfl (lv_at hl 5 rfl) ?_
  refine lv_bipush (v := nI 11) hx hb dL_passes_38 (by decide) ?_
  refine h_op (st := []) C hS hP hD hl.1 (k_count h0 (q := 11) (by decide)) gL_passes_X4_count rfl hd_count ⟨Nat.le_of_ble_eq_true rfl, Nat.le_of_ble_eq_true rfl⟩ rfl rfl (Nat.le_of_ble_eq_true rfl) dL_passes_40 ⟨Nat.le_of_ble_eq_true rfl, Nat.le_of_ble_eq_true rfl⟩ (fun H locs hP hD hS => ?_)
  refine lv_eqi (y := nI (pmN N)) (e_c11 h b) ?_
  refine lv_istore (lv' := [(7, .int (nI (pmN N))), (6, .int (s_dk v.1)), (5, .int (nI (n_fz N))), (4, .int (s_dr v.1)), (3, .int (s_fe v.1)), (2, .int (nI (snN (n_wa N) 12))), (0, .ref B.1.1), (1, .int (nI 11))]) hx hb dL_passes_43 hl (by decide) rfl (fun ls hl => ?_)
  refine lv_aload_n hx hb dL_passes_45 rfl (lv_at hl 6 rfl) ?_
  refine lv_iconst (v := nI 4) hx hb dL_passes_46 (by decide) ?_
  refine h_op (st := []) C hS hP hD hl.1 (k_count h0 (q := 4) (by decide)) gL_passes_X4_count rfl hd_count ⟨Nat.le_of_ble_eq_true rfl, Nat.le_of_ble_eq_true rfl⟩ rfl rfl (Nat.le_of_ble_eq_true rfl) dL_passes_47 ⟨Nat.le_of_ble_eq_true rfl, Nat.le_of_ble_eq_true rfl⟩ (fun H locs hP hD hS => ?_)
  refine lv_eqi (y := s_dy v.1) (rfl) ?_
  refine lv_istore (lv' := [(8, .int (s_dy v.1)), (7, .int (nI (pmN N))), (6, .int (s_dk v.1)), (5, .int (nI (n_fz N))), (4, .int (s_dr v.1)), (3, .int (s_fe v.1)), (2, .int (nI (snN (n_wa N) 12))), (0, .ref B.1.1), (1, .int (nI 11))]) hx hb dL_passes_50 hl (by decide) rfl (fun ls hl => ?_)
  refine lv_aload_n hx hb dL_passes_52 rfl (lv_at hl 7 rfl) ?_
  refine lv_iload_n hx hb dL_passes_53 rfl (lv_at hl 8 rfl) ?_
  refine h_op (st := []) C hS hP hD hl.1 (hk) gL_passes_X4_pass rfl hd_pass ⟨Nat.le_of_ble_eq_true rfl, Nat.le_of_ble_eq_true rfl⟩ rfl rfl (Nat.le_of_ble_eq_true rfl) dL_passes_54 ⟨Nat.le_of_ble_eq_true rfl, Nat.le_of_ble_eq_true rfl⟩ (fun H locs hP hD hS => ?_)
  refine lv_eqi (y := nI (snN (n_wa N) 12)) (by rw [← hv1]; exact (show smD (s_wa v1.1) 12 = _ by rw [g_wa]; exact e_c5 h)) ?_
  refine lv_istore (lv' := [(9, .int (nI (snN (n_wa N) 12))), (8, .int (s_dy v.1)), (7, .int (nI (pmN N))), (6, .int (s_dk v.1)), (5, .int (nI (n_fz N))), (4, .int (s_dr v.1)), (3, .int (s_fe v.1)), (2, .int (nI (snN (n_wa N) 12))), (0, .ref B.1.1), (1, .int (nI 11))]) hx hb dL_passes_57 hl (by decide) rfl (fun ls hl => ?_)
  refine lv_iload hx hb dL_passes_59 (lv_at hl 0 rfl) ?_
  refine lv_aload_n hx hb dL_passes_61 rfl (lv_at hl 8 rfl) ?_
  refine lv_iconst (v := nI 5) hx hb dL_passes_62 (by decide) ?_
  refine h_op (st := [.int (nI (snN (n_wa N) 12))]) C hS hP hD hl.1 (k_count h01 (q := 5) (by decide)) gL_passes_X4_count rfl hd_count ⟨Nat.le_of_ble_eq_true rfl, Nat.le_of_ble_eq_true rfl⟩ rfl rfl (Nat.le_of_ble_eq_true rfl) dL_passes_63 ⟨Nat.le_of_ble_eq_true rfl, Nat.le_of_ble_eq_true rfl⟩ (fun H locs hP hD hS => ?_)
  refine lv_eqi (y := nI (snN (n_wa N) 12)) ((show smD (s_wa v1.1) 12 = _ by rw [g_wa]; exact e_c5 h)) ?_
  refine lv_icmp_ne (tgt := 123) hx hb dL_passes_66 (by decide) (fun c_1 => ?_) (fun c_1 => ?_)
  · skip
    exact absurd ((nI_eq (a := (snN (n_wa N) 12)) (b := (snN (n_wa N) 12)) (by omega) (by omega)).mpr (by omega)) c_1
  · skip
    refine lv_aload_n hx hb dL_passes_69 rfl (lv_at hl 8 rfl) ?_
    refine lv_iconst (v := nI 4) hx hb dL_passes_70 (by decide) ?_
    refine h_op (st := []) C hS hP hD hl.1 (k_count h01 (q := 4) (by decide)) gL_passes_X4_count rfl hd_count ⟨Nat.le_of_ble_eq_true rfl, Nat.le_of_ble_eq_true rfl⟩ rfl rfl (Nat.le_of_ble_eq_true rfl) dL_passes_71 ⟨Nat.le_of_ble_eq_true rfl, Nat.le_of_ble_eq_true rfl⟩ (fun H locs hP hD hS => ?_)
    refine lv_eqi (y := s_dy v1.1) (rfl) ?_
    refine lv_iload hx hb dL_passes_74 (lv_at hl 1 rfl) ?_
    refine lv_iload_n hx hb dL_passes_76 rfl (lv_at hl 9 rfl) ?_
    refine lv_bipush (v := nI 11) hx hb dL_passes_77 (by decide) ?_
    refine lv_icmp_ne (tgt := 86) hx hb dL_passes_79 (by decide) (fun c_2 => ?_) (fun c_2 => ?_)
    · skip
      exact absurd (by decide) c_2
    · skip
      refine lv_iconst (v := nI 1) hx hb dL_passes_82 (by decide) ?_
      refine lv_goto (tgt := 87) hx hb dL_passes_83 (by decide) ?_
      refine lv_iadd hx hb dL_passes_87 ?_
      refine lv_icmp_ne (tgt := 123) hx hb dL_passes_88 (by decide) (fun c_3 => ?_) (fun c_3 => ?_)
      · skip
        exact absurd g_dy c_3
      · skip
        refine lv_iload_n hx hb dL_passes_91 rfl (lv_at hl 9 rfl) ?_
        refine lv_bipush (v := nI 11) hx hb dL_passes_92 (by decide) ?_
        refine lv_icmp_eq (tgt := 119) hx hb dL_passes_94 (by decide) (fun c_4 => ?_) (fun c_4 => ?_)
        · skip
          refine lv_iconst (v := nI 1) hx hb dL_passes_119 (by decide) ?_
          refine lv_goto (tgt := 124) hx hb dL_passes_120 (by decide) ?_
          refine lv_istore (lv' := [(10, .int (nI 1)), (9, .int (nI (snN (n_wa N) 12))), (8, .int (s_dy v.1)), (7, .int (nI (pmN N))), (6, .int (s_dk v.1)), (5, .int (nI (n_fz N))), (4, .int (s_dr v.1)), (3, .int (s_fe v.1)), (2, .int (nI (snN (n_wa N) 12))), (0, .ref B.1.1), (1, .int (nI 11))]) hx hb dL_passes_124 hl (by decide) rfl (fun ls hl => ?_)
          refine lv_iload_n hx hb dL_passes_126 rfl (lv_at hl 10 rfl) ?_
          refine lv_if_ne (tgt := 196) hx hb dL_passes_127 (by decide) (fun c_5 => ?_) (fun c_5 => ?_)
          · skip
            refine lv_iload_n hx hb dL_passes_196 rfl (lv_at hl 10 rfl) ?_
            refine lv_bipush (v := nI 10) hx hb dL_passes_197 (by decide) ?_
            refine lv_icmp_ge (tgt := 262) hx hb dL_passes_199 (by decide) (fun c_6 => ?_) (fun c_6 => ?_)
            · skip
              refine lv_iconst (v := nI 0) hx hb dL_passes_262 (by decide) ?_
              refine lv_istore (lv' := [(11, .int (nI 0)), (10, .int (nI 1)), (9, .int (nI (snN (n_wa N) 12))), (8, .int (s_dy v.1)), (7, .int (nI (pmN N))), (6, .int (s_dk v.1)), (5, .int (nI (n_fz N))), (4, .int (s_dr v.1)), (3, .int (s_fe v.1)), (2, .int (nI (snN (n_wa N) 12))), (0, .ref B.1.1), (1, .int (nI 11))]) hx hb dL_passes_263 hl (by decide) rfl (fun ls hl => ?_)
              have loop_265 : ∀ (n p : Nat), p + n = n12 → ∀ (H : Heap) (locs : List Loc) (ls : Array Slot), va_P G vwCl (XV ca B v1) H → va_D A (XV ca B v1) → va_S A s.heap H locs → lv_has ls 14 [(0, .ref B.1.1), (1, .int (nI 11)), (2, .int (nI (snN (n_wa N) 12))), (3, .int (s_fe v.1)), (4, .int (s_dr v.1)), (5, .int (nI (n_fz N))), (6, .int (s_dk v.1)), (7, .int (nI (pmN N))), (8, .int (s_dy v.1)), (9, .int (nI (snN (n_wa N) 12))), (10, .int (nI 1)), (11, .int (nI p))] → W pr l en (rmA : Room) s m ([.ref B.1.1, .int (nI 11)] : List Value).toArray be me c H locs 0 0 Q (F0 m 265 ls []) := by
                intro n
                induction n with
                | zero =>
                  intro p hi H locs ls hP hD hS hl
                  obtain rfl : n12 = p := by omega
                  refine lv_iload hx hb dL_passes_265 (lv_at hl 11 rfl) ?_
                  refine lv_bipush (v := nI 12) hx hb dL_passes_267 (by decide) ?_
                  refine lv_icmp_ge (tgt := 401) hx hb dL_passes_269 (by decide) (fun c_7 => ?_) (fun c_7 => ?_)
                  · skip
                    refine lv_iload hx hb dL_passes_401 (lv_at hl 10 rfl) ?_
                    refine lv_if_eq (tgt := 454) hx hb dL_passes_403 (by decide) (fun c_8 => ?_) (fun c_8 => ?_)
                    · skip
                      exact absurd c_8 (by decide)
                    · skip
                      refine lv_iload hx hb dL_passes_406 (lv_at hl 9 rfl) ?_
                      refine lv_iload_n hx hb dL_passes_408 rfl (lv_at hl 2 rfl) ?_
                      refine lv_icmp_ne (tgt := 454) hx hb dL_passes_409 (by decide) (fun c_9 => ?_) (fun c_9 => ?_)
                      · skip
                        exact absurd ((nI_eq (a := (snN (n_wa N) 12)) (b := (snN (n_wa N) 12)) (by omega) (by omega)).mpr (by omega)) c_9
                      · skip
                        refine lv_aload_n hx hb dL_passes_412 rfl (lv_at hl 0 rfl) ?_
                        refine lv_bipush (v := nI 6) hx hb dL_passes_413 (by decide) ?_
                        refine h_op (st := []) C hS hP hD hl.1 (k_count h01 (q := 6) (by decide)) gL_passes_X4_count rfl hd_count ⟨Nat.le_of_ble_eq_true rfl, Nat.le_of_ble_eq_true rfl⟩ rfl rfl (Nat.le_of_ble_eq_true rfl) dL_passes_415 ⟨Nat.le_of_ble_eq_true rfl, Nat.le_of_ble_eq_true rfl⟩ (fun H locs hP hD hS => ?_)
                        refine lv_eqi (y := s_fe v1.1) (rfl) ?_
                        refine lv_iload_n hx hb dL_passes_418 rfl (lv_at hl 3 rfl) ?_
                        refine lv_icmp_ne (tgt := 454) hx hb dL_passes_419 (by decide) (fun c_10 => ?_) (fun c_10 => ?_)
                        · skip
                          exact absurd g_fe c_10
                        · skip
                          refine lv_iload_n hx hb dL_passes_422 rfl (lv_at hl 1 rfl) ?_
                          refine lv_bipush (v := nI 10) hx hb dL_passes_423 (by decide) ?_
                          refine lv_icmp_eq (tgt := 450) hx hb dL_passes_425 (by decide) (fun c_11 => ?_) (fun c_11 => ?_)
                          · skip
                            exact absurd c_11 (by decide)
                          · skip
                            refine lv_aload_n hx hb dL_passes_428 rfl (lv_at hl 0 rfl) ?_
                            refine lv_bipush (v := nI 9) hx hb dL_passes_429 (by decide) ?_
                            refine h_op (st := []) C hS hP hD hl.1 (k_count h01 (q := 9) (by decide)) gL_passes_X4_count rfl hd_count ⟨Nat.le_of_ble_eq_true rfl, Nat.le_of_ble_eq_true rfl⟩ rfl rfl (Nat.le_of_ble_eq_true rfl) dL_passes_431 ⟨Nat.le_of_ble_eq_true rfl, Nat.le_of_ble_eq_true rfl⟩ (fun H locs hP hD hS => ?_)
                            refine lv_eqi (y := nI (n_fz N1)) (g1.fz) ?_
                            refine lv_iload hx hb dL_passes_434 (lv_at hl 5 rfl) ?_
                            refine lv_icmp_ne (tgt := 454) hx hb dL_passes_436 (by decide) (fun c_12 => ?_) (fun c_12 => ?_)
                            · skip
                              exact absurd ((nI_eq (a := (n_fz N1)) (b := (n_fz N)) (by omega) (by omega)).mpr (by omega)) c_12
                            · skip
                              refine lv_aload_n hx hb dL_passes_439 rfl (lv_at hl 0 rfl) ?_
                              refine lv_bipush (v := nI 11) hx hb dL_passes_440 (by decide) ?_
                              refine h_op (st := []) C hS hP hD hl.1 (k_count h01 (q := 11) (by decide)) gL_passes_X4_count rfl hd_count ⟨Nat.le_of_ble_eq_true rfl, Nat.le_of_ble_eq_true rfl⟩ rfl rfl (Nat.le_of_ble_eq_true rfl) dL_passes_442 ⟨Nat.le_of_ble_eq_true rfl, Nat.le_of_ble_eq_true rfl⟩ (fun H locs hP hD hS => ?_)
                              refine lv_eqi (y := nI (pmN N1)) (e_c11 g1 g2) ?_
                              refine lv_iload hx hb dL_passes_445 (lv_at hl 7 rfl) ?_
                              refine lv_icmp_gt (tgt := 454) hx hb dL_passes_447 (by decide) (fun c_13 => ?_) (fun c_13 => ?_)
                              · skip
                                exact absurd c_13 (nI_nlt (a := (pmN N)) (b := (pmN N1)) (by omega) (by omega))
                              · skip
                                refine lv_iconst (v := nI 1) hx hb dL_passes_450 (by decide) ?_
                                refine lv_goto (tgt := 455) hx hb dL_passes_451 (by decide) ?_
                                exact hret _ _ _ _ hP hS dL_passes_455
                  · skip
                    exact absurd (nI_le (a := 12) (b := n12) (by omega) (by omega)) c_7
                | succ n ih =>
                  intro p hi H locs ls hP hD hS hl
                  have hlt : p < n12 := by omega
                  refine lv_iload hx hb dL_passes_265 (lv_at hl 11 rfl) ?_
                  refine lv_bipush (v := nI 12) hx hb dL_passes_267 (by decide) ?_
                  refine lv_icmp_ge (tgt := 401) hx hb dL_passes_269 (by decide) (fun c_14 => ?_) (fun c_14 => ?_)
                  · skip
                    exact absurd c_14 (nI_ge (a := p) (b := 12) (by omega) (by omega))
                  · skip
                    refine lv_iload hx hb dL_passes_272 (lv_at hl 10 rfl) ?_
                    refine lv_if_eq (tgt := 401) hx hb dL_passes_274 (by decide) (fun c_15 => ?_) (fun c_15 => ?_)
                    · skip
                      exact absurd c_15 (by decide)
                    · skip
                      have hwb := b.wb p (by omega)
                      have hs2 := b.s2
                      have e2 : n_se N1 2 = n_se N 2 := congrFun g_se2 2
                      have ew : n_wa N1 p = n_wa N p := congrFun g_wa2 p
                      have hf := g_bit p (by omega)
                      have hb1 := bN_le (n_fz N1) p
                      have hb2 := bN_le (n_fz N) p
                      by_cases hd : 19 < n_wa N p
                      · skip
                        rcases (show n_wa N p < n_se N 2 ∨ (n_se N 2 ≤ n_wa N p ∧ bN (n_fz N1) p = 1) ∨ (n_se N 2 ≤ n_wa N p ∧ bN (n_fz N1) p = 0) by omega) with hc | hc | hc
                        · skip
                          rw [if_neg (fun q => by have q1 := q.1; have q2 := q.2; rw [← g_fz2] at q2; omega)] at hf
                          refine lv_aload_n hx hb dL_passes_277 rfl (lv_at hl 0 rfl) ?_
                          refine lv_iload hx hb dL_passes_278 (lv_at hl 11 rfl) ?_
                          refine lv_iconst (v := nI 1) hx hb dL_passes_280 (by decide) ?_
                          refine h_op (st := []) C hS hP hD hl.1 (k_puddle (p := p) (by omega) (q := 1) (by decide)) gL_passes_X4_puddle rfl hd_puddle ⟨Nat.le_of_ble_eq_true rfl, Nat.le_of_ble_eq_true rfl⟩ rfl rfl (Nat.le_of_ble_eq_true rfl) dL_passes_281 ⟨Nat.le_of_ble_eq_true rfl, Nat.le_of_ble_eq_true rfl⟩ (fun H locs hP hD hS => ?_)
                          refine lv_eqi (y := nI (n_wa N1 p)) (e_p1 g1 (p := p) (by omega)) ?_
                          refine lv_bipush (v := nI 19) hx hb dL_passes_284 (by decide) ?_
                          refine lv_icmp_le (tgt := 293) hx hb dL_passes_286 (by decide) (fun c_16 => ?_) (fun c_16 => ?_)
                          · skip
                            exact absurd c_16 (nI_ge (a := 19) (b := (n_wa N1 p)) (by omega) (by omega))
                          · skip
                            refine lv_iconst (v := nI 1) hx hb dL_passes_289 (by decide) ?_
                            refine lv_goto (tgt := 294) hx hb dL_passes_290 (by decide) ?_
                            refine lv_istore (lv' := [(12, .int (nI 1)), (0, .ref B.1.1), (1, .int (nI 11)), (2, .int (nI (snN (n_wa N) 12))), (3, .int (s_fe v.1)), (4, .int (s_dr v.1)), (5, .int (nI (n_fz N))), (6, .int (s_dk v.1)), (7, .int (nI (pmN N))), (8, .int (s_dy v.1)), (9, .int (nI (snN (n_wa N) 12))), (10, .int (nI 1)), (11, .int (nI p))]) hx hb dL_passes_294 hl (by decide) rfl (fun ls hl => ?_)
                            refine lv_aload_n hx hb dL_passes_296 rfl (lv_at hl 1 rfl) ?_
                            refine lv_iload hx hb dL_passes_297 (lv_at hl 12 rfl) ?_
                            refine lv_iconst (v := nI 1) hx hb dL_passes_299 (by decide) ?_
                            refine h_op (st := []) C hS hP hD hl.1 (k_puddle (p := p) (by omega) (q := 1) (by decide)) gL_passes_X4_puddle rfl hd_puddle ⟨Nat.le_of_ble_eq_true rfl, Nat.le_of_ble_eq_true rfl⟩ rfl rfl (Nat.le_of_ble_eq_true rfl) dL_passes_300 ⟨Nat.le_of_ble_eq_true rfl, Nat.le_of_ble_eq_true rfl⟩ (fun H locs hP hD hS => ?_)
                            refine lv_eqi (y := nI (n_wa N1 p)) (e_p1 g1 (p := p) (by omega)) ?_
                            refine lv_aload_n hx hb dL_passes_303 rfl (lv_at hl 1 rfl) ?_
                            refine lv_iconst (v := nI 2) hx hb dL_passes_304 (by decide) ?_
                            refine h_op (st := [.int (nI (n_wa N1 p))]) C hS hP hD hl.1 (k_count h01 (q := 2) (by decide)) gL_passes_X4_count rfl hd_count ⟨Nat.le_of_ble_eq_true rfl, Nat.le_of_ble_eq_true rfl⟩ rfl rfl (Nat.le_of_ble_eq_true rfl) dL_passes_305 ⟨Nat.le_of_ble_eq_true rfl, Nat.le_of_ble_eq_true rfl⟩ (fun H locs hP hD hS => ?_)
                            refine lv_eqi (y := nI (n_se N1 2)) (g1.se 2 (by omega)) ?_
                            refine lv_icmp_lt (tgt := 325) hx hb dL_passes_308 (by decide) (fun c_17 => ?_) (fun c_17 => ?_)
                            · skip
                              refine lv_iconst (v := nI 0) hx hb dL_passes_325 (by decide) ?_
                              refine lv_istore (lv' := [(13, .int (nI 0)), (12, .int (nI 1)), (0, .ref B.1.1), (1, .int (nI 11)), (2, .int (nI (snN (n_wa N) 12))), (3, .int (s_fe v.1)), (4, .int (s_dr v.1)), (5, .int (nI (n_fz N))), (6, .int (s_dk v.1)), (7, .int (nI (pmN N))), (8, .int (s_dy v.1)), (9, .int (nI (snN (n_wa N) 12))), (10, .int (nI 1)), (11, .int (nI p))]) hx hb dL_passes_326 hl (by decide) rfl (fun ls hl => ?_)
                              refine lv_iload_n hx hb dL_passes_328 rfl (lv_at hl 3 rfl) ?_
                              refine lv_bipush (v := nI 10) hx hb dL_passes_329 (by decide) ?_
                              refine lv_icmp_ne (tgt := 368) hx hb dL_passes_331 (by decide) (fun c_18 => ?_) (fun c_18 => ?_)
                              · skip
                                refine lv_aload_n hx hb dL_passes_368 rfl (lv_at hl 2 rfl) ?_
                                refine lv_iload hx hb dL_passes_369 (lv_at hl 13 rfl) ?_
                                refine lv_iconst (v := nI 4) hx hb dL_passes_371 (by decide) ?_
                                refine h_op (st := []) C hS hP hD hl.1 (k_puddle (p := p) (by omega) (q := 4) (by decide)) gL_passes_X4_puddle rfl hd_puddle ⟨Nat.le_of_ble_eq_true rfl, Nat.le_of_ble_eq_true rfl⟩ rfl rfl (Nat.le_of_ble_eq_true rfl) dL_passes_372 ⟨Nat.le_of_ble_eq_true rfl, Nat.le_of_ble_eq_true rfl⟩ (fun H locs hP hD hS => ?_)
                                refine lv_eqi (y := nI (bN (n_dk N1) p)) (e_p4 g1 g2 (p := p) (by omega)) ?_
                                refine lv_iload hx hb dL_passes_375 (lv_at hl 0 rfl) ?_
                                refine lv_if_eq (tgt := 384) hx hb dL_passes_377 (by decide) (fun c_19 => ?_) (fun c_19 => ?_)
                                · skip
                                  refine lv_iconst (v := nI 0) hx hb dL_passes_384 (by decide) ?_
                                  refine lv_icmp_ne (tgt := 392) hx hb dL_passes_385 (by decide) (fun c_20 => ?_) (fun c_20 => ?_)
                                  · skip
                                    exact absurd ((nI_eq (a := (bN (n_dk N1) p)) (b := 0) (by omega) (by omega)).mpr (by omega)) c_20
                                  · skip
                                    refine lv_iconst (v := nI 1) hx hb dL_passes_388 (by decide) ?_
                                    refine lv_goto (tgt := 393) hx hb dL_passes_389 (by decide) ?_
                                    refine lv_istore (lv' := [(10, .int (nI 1)), (13, .int (nI 0)), (12, .int (nI 1)), (0, .ref B.1.1), (1, .int (nI 11)), (2, .int (nI (snN (n_wa N) 12))), (3, .int (s_fe v.1)), (4, .int (s_dr v.1)), (5, .int (nI (n_fz N))), (6, .int (s_dk v.1)), (7, .int (nI (pmN N))), (8, .int (s_dy v.1)), (9, .int (nI (snN (n_wa N) 12))), (11, .int (nI p))]) hx hb dL_passes_393 hl (by decide) rfl (fun ls hl => ?_)
                                    refine lv_iinc (v := nI (p + 1)) (lv' := [(11, .int (nI (p + 1))), (10, .int (nI 1)), (13, .int (nI 0)), (12, .int (nI 1)), (0, .ref B.1.1), (1, .int (nI 11)), (2, .int (nI (snN (n_wa N) 12))), (3, .int (s_fe v.1)), (4, .int (s_dr v.1)), (5, .int (nI (n_fz N))), (6, .int (s_dk v.1)), (7, .int (nI (pmN N))), (8, .int (s_dy v.1)), (9, .int (nI (snN (n_wa N) 12)))]) hx hb dL_passes_395 hl (k := 13) rfl (nI_1 _) (by decide) rfl (fun ls hl => ?_)
                                    refine lv_goto (tgt := 265) hx hb dL_passes_398 (by decide) ?_
                                    exact ih (p + 1) (by omega) _ _ _ hP (D_of hD rfl) hS (lv_sub hl [4, 5, 6, 7, 8, 9, 10, 11, 12, 13, 1, 0] rfl)
                                · skip
                                  exact absurd (by decide) c_19
                              · skip
                                exact absurd c_18 (by decide)
                            · skip
                              exact absurd (nI_lt (a := (n_wa N1 p)) (b := (n_se N1 2)) (by omega) (by omega)) c_17
                        · skip
                          rw [if_neg (fun q => by have q1 := q.1; have q2 := q.2; rw [← g_fz2] at q2; omega)] at hf
                          refine lv_aload_n hx hb dL_passes_277 rfl (lv_at hl 0 rfl) ?_
                          refine lv_iload hx hb dL_passes_278 (lv_at hl 11 rfl) ?_
                          refine lv_iconst (v := nI 1) hx hb dL_passes_280 (by decide) ?_
                          refine h_op (st := []) C hS hP hD hl.1 (k_puddle (p := p) (by omega) (q := 1) (by decide)) gL_passes_X4_puddle rfl hd_puddle ⟨Nat.le_of_ble_eq_true rfl, Nat.le_of_ble_eq_true rfl⟩ rfl rfl (Nat.le_of_ble_eq_true rfl) dL_passes_281 ⟨Nat.le_of_ble_eq_true rfl, Nat.le_of_ble_eq_true rfl⟩ (fun H locs hP hD hS => ?_)
                          refine lv_eqi (y := nI (n_wa N1 p)) (e_p1 g1 (p := p) (by omega)) ?_
                          refine lv_bipush (v := nI 19) hx hb dL_passes_284 (by decide) ?_
                          refine lv_icmp_le (tgt := 293) hx hb dL_passes_286 (by decide) (fun c_21 => ?_) (fun c_21 => ?_)
                          · skip
                            exact absurd c_21 (nI_ge (a := 19) (b := (n_wa N1 p)) (by omega) (by omega))
                          · skip
                            refine lv_iconst (v := nI 1) hx hb dL_passes_289 (by decide) ?_
                            refine lv_goto (tgt := 294) hx hb dL_passes_290 (by decide) ?_
                            refine lv_istore (lv' := [(12, .int (nI 1)), (0, .ref B.1.1), (1, .int (nI 11)), (2, .int (nI (snN (n_wa N) 12))), (3, .int (s_fe v.1)), (4, .int (s_dr v.1)), (5, .int (nI (n_fz N))), (6, .int (s_dk v.1)), (7, .int (nI (pmN N))), (8, .int (s_dy v.1)), (9, .int (nI (snN (n_wa N) 12))), (10, .int (nI 1)), (11, .int (nI p))]) hx hb dL_passes_294 hl (by decide) rfl (fun ls hl => ?_)
                            refine lv_aload_n hx hb dL_passes_296 rfl (lv_at hl 1 rfl) ?_
                            refine lv_iload hx hb dL_passes_297 (lv_at hl 12 rfl) ?_
                            refine lv_iconst (v := nI 1) hx hb dL_passes_299 (by decide) ?_
                            refine h_op (st := []) C hS hP hD hl.1 (k_puddle (p := p) (by omega) (q := 1) (by decide)) gL_passes_X4_puddle rfl hd_puddle ⟨Nat.le_of_ble_eq_true rfl, Nat.le_of_ble_eq_true rfl⟩ rfl rfl (Nat.le_of_ble_eq_true rfl) dL_passes_300 ⟨Nat.le_of_ble_eq_true rfl, Nat.le_of_ble_eq_true rfl⟩ (fun H locs hP hD hS => ?_)
                            refine lv_eqi (y := nI (n_wa N1 p)) (e_p1 g1 (p := p) (by omega)) ?_
                            refine lv_aload_n hx hb dL_passes_303 rfl (lv_at hl 1 rfl) ?_
                            refine lv_iconst (v := nI 2) hx hb dL_passes_304 (by decide) ?_
                            refine h_op (st := [.int (nI (n_wa N1 p))]) C hS hP hD hl.1 (k_count h01 (q := 2) (by decide)) gL_passes_X4_count rfl hd_count ⟨Nat.le_of_ble_eq_true rfl, Nat.le_of_ble_eq_true rfl⟩ rfl rfl (Nat.le_of_ble_eq_true rfl) dL_passes_305 ⟨Nat.le_of_ble_eq_true rfl, Nat.le_of_ble_eq_true rfl⟩ (fun H locs hP hD hS => ?_)
                            refine lv_eqi (y := nI (n_se N1 2)) (g1.se 2 (by omega)) ?_
                            refine lv_icmp_lt (tgt := 325) hx hb dL_passes_308 (by decide) (fun c_22 => ?_) (fun c_22 => ?_)
                            · skip
                              exact absurd c_22 (nI_nlt (a := (n_wa N1 p)) (b := (n_se N1 2)) (by omega) (by omega))
                            · skip
                              refine lv_aload_n hx hb dL_passes_311 rfl (lv_at hl 1 rfl) ?_
                              refine lv_iload hx hb dL_passes_312 (lv_at hl 12 rfl) ?_
                              refine lv_iconst (v := nI 3) hx hb dL_passes_314 (by decide) ?_
                              refine h_op (st := []) C hS hP hD hl.1 (k_puddle (p := p) (by omega) (q := 3) (by decide)) gL_passes_X4_puddle rfl hd_puddle ⟨Nat.le_of_ble_eq_true rfl, Nat.le_of_ble_eq_true rfl⟩ rfl rfl (Nat.le_of_ble_eq_true rfl) dL_passes_315 ⟨Nat.le_of_ble_eq_true rfl, Nat.le_of_ble_eq_true rfl⟩ (fun H locs hP hD hS => ?_)
                              refine lv_eqi (y := nI (bN (n_fz N1) p)) (e_p3 g1 g2 (p := p) (by omega)) ?_
                              refine lv_if_ne (tgt := 325) hx hb dL_passes_318 (by decide) (fun c_23 => ?_) (fun c_23 => ?_)
                              · skip
                                refine lv_iconst (v := nI 0) hx hb dL_passes_325 (by decide) ?_
                                refine lv_istore (lv' := [(13, .int (nI 0)), (12, .int (nI 1)), (0, .ref B.1.1), (1, .int (nI 11)), (2, .int (nI (snN (n_wa N) 12))), (3, .int (s_fe v.1)), (4, .int (s_dr v.1)), (5, .int (nI (n_fz N))), (6, .int (s_dk v.1)), (7, .int (nI (pmN N))), (8, .int (s_dy v.1)), (9, .int (nI (snN (n_wa N) 12))), (10, .int (nI 1)), (11, .int (nI p))]) hx hb dL_passes_326 hl (by decide) rfl (fun ls hl => ?_)
                                refine lv_iload_n hx hb dL_passes_328 rfl (lv_at hl 3 rfl) ?_
                                refine lv_bipush (v := nI 10) hx hb dL_passes_329 (by decide) ?_
                                refine lv_icmp_ne (tgt := 368) hx hb dL_passes_331 (by decide) (fun c_24 => ?_) (fun c_24 => ?_)
                                · skip
                                  refine lv_aload_n hx hb dL_passes_368 rfl (lv_at hl 2 rfl) ?_
                                  refine lv_iload hx hb dL_passes_369 (lv_at hl 13 rfl) ?_
                                  refine lv_iconst (v := nI 4) hx hb dL_passes_371 (by decide) ?_
                                  refine h_op (st := []) C hS hP hD hl.1 (k_puddle (p := p) (by omega) (q := 4) (by decide)) gL_passes_X4_puddle rfl hd_puddle ⟨Nat.le_of_ble_eq_true rfl, Nat.le_of_ble_eq_true rfl⟩ rfl rfl (Nat.le_of_ble_eq_true rfl) dL_passes_372 ⟨Nat.le_of_ble_eq_true rfl, Nat.le_of_ble_eq_true rfl⟩ (fun H locs hP hD hS => ?_)
                                  refine lv_eqi (y := nI (bN (n_dk N1) p)) (e_p4 g1 g2 (p := p) (by omega)) ?_
                                  refine lv_iload hx hb dL_passes_375 (lv_at hl 0 rfl) ?_
                                  refine lv_if_eq (tgt := 384) hx hb dL_passes_377 (by decide) (fun c_25 => ?_) (fun c_25 => ?_)
                                  · skip
                                    refine lv_iconst (v := nI 0) hx hb dL_passes_384 (by decide) ?_
                                    refine lv_icmp_ne (tgt := 392) hx hb dL_passes_385 (by decide) (fun c_26 => ?_) (fun c_26 => ?_)
                                    · skip
                                      exact absurd ((nI_eq (a := (bN (n_dk N1) p)) (b := 0) (by omega) (by omega)).mpr (by omega)) c_26
                                    · skip
                                      refine lv_iconst (v := nI 1) hx hb dL_passes_388 (by decide) ?_
                                      refine lv_goto (tgt := 393) hx hb dL_passes_389 (by decide) ?_
                                      refine lv_istore (lv' := [(10, .int (nI 1)), (13, .int (nI 0)), (12, .int (nI 1)), (0, .ref B.1.1), (1, .int (nI 11)), (2, .int (nI (snN (n_wa N) 12))), (3, .int (s_fe v.1)), (4, .int (s_dr v.1)), (5, .int (nI (n_fz N))), (6, .int (s_dk v.1)), (7, .int (nI (pmN N))), (8, .int (s_dy v.1)), (9, .int (nI (snN (n_wa N) 12))), (11, .int (nI p))]) hx hb dL_passes_393 hl (by decide) rfl (fun ls hl => ?_)
                                      refine lv_iinc (v := nI (p + 1)) (lv' := [(11, .int (nI (p + 1))), (10, .int (nI 1)), (13, .int (nI 0)), (12, .int (nI 1)), (0, .ref B.1.1), (1, .int (nI 11)), (2, .int (nI (snN (n_wa N) 12))), (3, .int (s_fe v.1)), (4, .int (s_dr v.1)), (5, .int (nI (n_fz N))), (6, .int (s_dk v.1)), (7, .int (nI (pmN N))), (8, .int (s_dy v.1)), (9, .int (nI (snN (n_wa N) 12)))]) hx hb dL_passes_395 hl (k := 13) rfl (nI_1 _) (by decide) rfl (fun ls hl => ?_)
                                      refine lv_goto (tgt := 265) hx hb dL_passes_398 (by decide) ?_
                                      exact ih (p + 1) (by omega) _ _ _ hP (D_of hD rfl) hS (lv_sub hl [4, 5, 6, 7, 8, 9, 10, 11, 12, 13, 1, 0] rfl)
                                  · skip
                                    exact absurd (by decide) c_25
                                · skip
                                  exact absurd c_24 (by decide)
                              · skip
                                exact absurd ((nI_eq (a := (bN (n_fz N1) p)) (b := 0) (by omega) (by omega)).mp c_23) (by omega)
                        · skip
                          rw [if_pos ⟨hc.1, by rw [← g_fz2]; exact hc.2⟩] at hf
                          refine lv_aload_n hx hb dL_passes_277 rfl (lv_at hl 0 rfl) ?_
                          refine lv_iload hx hb dL_passes_278 (lv_at hl 11 rfl) ?_
                          refine lv_iconst (v := nI 1) hx hb dL_passes_280 (by decide) ?_
                          refine h_op (st := []) C hS hP hD hl.1 (k_puddle (p := p) (by omega) (q := 1) (by decide)) gL_passes_X4_puddle rfl hd_puddle ⟨Nat.le_of_ble_eq_true rfl, Nat.le_of_ble_eq_true rfl⟩ rfl rfl (Nat.le_of_ble_eq_true rfl) dL_passes_281 ⟨Nat.le_of_ble_eq_true rfl, Nat.le_of_ble_eq_true rfl⟩ (fun H locs hP hD hS => ?_)
                          refine lv_eqi (y := nI (n_wa N1 p)) (e_p1 g1 (p := p) (by omega)) ?_
                          refine lv_bipush (v := nI 19) hx hb dL_passes_284 (by decide) ?_
                          refine lv_icmp_le (tgt := 293) hx hb dL_passes_286 (by decide) (fun c_27 => ?_) (fun c_27 => ?_)
                          · skip
                            exact absurd c_27 (nI_ge (a := 19) (b := (n_wa N1 p)) (by omega) (by omega))
                          · skip
                            refine lv_iconst (v := nI 1) hx hb dL_passes_289 (by decide) ?_
                            refine lv_goto (tgt := 294) hx hb dL_passes_290 (by decide) ?_
                            refine lv_istore (lv' := [(12, .int (nI 1)), (0, .ref B.1.1), (1, .int (nI 11)), (2, .int (nI (snN (n_wa N) 12))), (3, .int (s_fe v.1)), (4, .int (s_dr v.1)), (5, .int (nI (n_fz N))), (6, .int (s_dk v.1)), (7, .int (nI (pmN N))), (8, .int (s_dy v.1)), (9, .int (nI (snN (n_wa N) 12))), (10, .int (nI 1)), (11, .int (nI p))]) hx hb dL_passes_294 hl (by decide) rfl (fun ls hl => ?_)
                            refine lv_aload_n hx hb dL_passes_296 rfl (lv_at hl 1 rfl) ?_
                            refine lv_iload hx hb dL_passes_297 (lv_at hl 12 rfl) ?_
                            refine lv_iconst (v := nI 1) hx hb dL_passes_299 (by decide) ?_
                            refine h_op (st := []) C hS hP hD hl.1 (k_puddle (p := p) (by omega) (q := 1) (by decide)) gL_passes_X4_puddle rfl hd_puddle ⟨Nat.le_of_ble_eq_true rfl, Nat.le_of_ble_eq_true rfl⟩ rfl rfl (Nat.le_of_ble_eq_true rfl) dL_passes_300 ⟨Nat.le_of_ble_eq_true rfl, Nat.le_of_ble_eq_true rfl⟩ (fun H locs hP hD hS => ?_)
                            refine lv_eqi (y := nI (n_wa N1 p)) (e_p1 g1 (p := p) (by omega)) ?_
                            refine lv_aload_n hx hb dL_passes_303 rfl (lv_at hl 1 rfl) ?_
                            refine lv_iconst (v := nI 2) hx hb dL_passes_304 (by decide) ?_
                            refine h_op (st := [.int (nI (n_wa N1 p))]) C hS hP hD hl.1 (k_count h01 (q := 2) (by decide)) gL_passes_X4_count rfl hd_count ⟨Nat.le_of_ble_eq_true rfl, Nat.le_of_ble_eq_true rfl⟩ rfl rfl (Nat.le_of_ble_eq_true rfl) dL_passes_305 ⟨Nat.le_of_ble_eq_true rfl, Nat.le_of_ble_eq_true rfl⟩ (fun H locs hP hD hS => ?_)
                            refine lv_eqi (y := nI (n_se N1 2)) (g1.se 2 (by omega)) ?_
                            refine lv_icmp_lt (tgt := 325) hx hb dL_passes_308 (by decide) (fun c_28 => ?_) (fun c_28 => ?_)
                            · skip
                              exact absurd c_28 (nI_nlt (a := (n_wa N1 p)) (b := (n_se N1 2)) (by omega) (by omega))
                            · skip
                              refine lv_aload_n hx hb dL_passes_311 rfl (lv_at hl 1 rfl) ?_
                              refine lv_iload hx hb dL_passes_312 (lv_at hl 12 rfl) ?_
                              refine lv_iconst (v := nI 3) hx hb dL_passes_314 (by decide) ?_
                              refine h_op (st := []) C hS hP hD hl.1 (k_puddle (p := p) (by omega) (q := 3) (by decide)) gL_passes_X4_puddle rfl hd_puddle ⟨Nat.le_of_ble_eq_true rfl, Nat.le_of_ble_eq_true rfl⟩ rfl rfl (Nat.le_of_ble_eq_true rfl) dL_passes_315 ⟨Nat.le_of_ble_eq_true rfl, Nat.le_of_ble_eq_true rfl⟩ (fun H locs hP hD hS => ?_)
                              refine lv_eqi (y := nI (bN (n_fz N1) p)) (e_p3 g1 g2 (p := p) (by omega)) ?_
                              refine lv_if_ne (tgt := 325) hx hb dL_passes_318 (by decide) (fun c_29 => ?_) (fun c_29 => ?_)
                              · skip
                                exact absurd ((nI_eq (a := (bN (n_fz N1) p)) (b := 0) (by omega) (by omega)).mpr (by omega)) c_29
                              · skip
                                refine lv_iconst (v := nI 1) hx hb dL_passes_321 (by decide) ?_
                                refine lv_goto (tgt := 326) hx hb dL_passes_322 (by decide) ?_
                                refine lv_istore (lv' := [(13, .int (nI 1)), (12, .int (nI 1)), (0, .ref B.1.1), (1, .int (nI 11)), (2, .int (nI (snN (n_wa N) 12))), (3, .int (s_fe v.1)), (4, .int (s_dr v.1)), (5, .int (nI (n_fz N))), (6, .int (s_dk v.1)), (7, .int (nI (pmN N))), (8, .int (s_dy v.1)), (9, .int (nI (snN (n_wa N) 12))), (10, .int (nI 1)), (11, .int (nI p))]) hx hb dL_passes_326 hl (by decide) rfl (fun ls hl => ?_)
                                refine lv_iload_n hx hb dL_passes_328 rfl (lv_at hl 3 rfl) ?_
                                refine lv_bipush (v := nI 10) hx hb dL_passes_329 (by decide) ?_
                                refine lv_icmp_ne (tgt := 368) hx hb dL_passes_331 (by decide) (fun c_30 => ?_) (fun c_30 => ?_)
                                · skip
                                  refine lv_aload_n hx hb dL_passes_368 rfl (lv_at hl 2 rfl) ?_
                                  refine lv_iload hx hb dL_passes_369 (lv_at hl 13 rfl) ?_
                                  refine lv_iconst (v := nI 4) hx hb dL_passes_371 (by decide) ?_
                                  refine h_op (st := []) C hS hP hD hl.1 (k_puddle (p := p) (by omega) (q := 4) (by decide)) gL_passes_X4_puddle rfl hd_puddle ⟨Nat.le_of_ble_eq_true rfl, Nat.le_of_ble_eq_true rfl⟩ rfl rfl (Nat.le_of_ble_eq_true rfl) dL_passes_372 ⟨Nat.le_of_ble_eq_true rfl, Nat.le_of_ble_eq_true rfl⟩ (fun H locs hP hD hS => ?_)
                                  refine lv_eqi (y := nI (bN (n_dk N1) p)) (e_p4 g1 g2 (p := p) (by omega)) ?_
                                  refine lv_iload hx hb dL_passes_375 (lv_at hl 0 rfl) ?_
                                  refine lv_if_eq (tgt := 384) hx hb dL_passes_377 (by decide) (fun c_31 => ?_) (fun c_31 => ?_)
                                  · skip
                                    exact absurd c_31 (by decide)
                                  · skip
                                    refine lv_iconst (v := nI 1) hx hb dL_passes_380 (by decide) ?_
                                    refine lv_goto (tgt := 385) hx hb dL_passes_381 (by decide) ?_
                                    refine lv_icmp_ne (tgt := 392) hx hb dL_passes_385 (by decide) (fun c_32 => ?_) (fun c_32 => ?_)
                                    · skip
                                      exact absurd ((nI_eq (a := (bN (n_dk N1) p)) (b := 1) (by omega) (by omega)).mpr (by omega)) c_32
                                    · skip
                                      refine lv_iconst (v := nI 1) hx hb dL_passes_388 (by decide) ?_
                                      refine lv_goto (tgt := 393) hx hb dL_passes_389 (by decide) ?_
                                      refine lv_istore (lv' := [(10, .int (nI 1)), (13, .int (nI 1)), (12, .int (nI 1)), (0, .ref B.1.1), (1, .int (nI 11)), (2, .int (nI (snN (n_wa N) 12))), (3, .int (s_fe v.1)), (4, .int (s_dr v.1)), (5, .int (nI (n_fz N))), (6, .int (s_dk v.1)), (7, .int (nI (pmN N))), (8, .int (s_dy v.1)), (9, .int (nI (snN (n_wa N) 12))), (11, .int (nI p))]) hx hb dL_passes_393 hl (by decide) rfl (fun ls hl => ?_)
                                      refine lv_iinc (v := nI (p + 1)) (lv' := [(11, .int (nI (p + 1))), (10, .int (nI 1)), (13, .int (nI 1)), (12, .int (nI 1)), (0, .ref B.1.1), (1, .int (nI 11)), (2, .int (nI (snN (n_wa N) 12))), (3, .int (s_fe v.1)), (4, .int (s_dr v.1)), (5, .int (nI (n_fz N))), (6, .int (s_dk v.1)), (7, .int (nI (pmN N))), (8, .int (s_dy v.1)), (9, .int (nI (snN (n_wa N) 12)))]) hx hb dL_passes_395 hl (k := 13) rfl (nI_1 _) (by decide) rfl (fun ls hl => ?_)
                                      refine lv_goto (tgt := 265) hx hb dL_passes_398 (by decide) ?_
                                      exact ih (p + 1) (by omega) _ _ _ hP (D_of hD rfl) hS (lv_sub hl [4, 5, 6, 7, 8, 9, 10, 11, 12, 13, 1, 0] rfl)
                                · skip
                                  exact absurd c_30 (by decide)
                      · skip
                        rcases (show n_wa N p < n_se N 2 ∨ (n_se N 2 ≤ n_wa N p ∧ bN (n_fz N1) p = 1) ∨ (n_se N 2 ≤ n_wa N p ∧ bN (n_fz N1) p = 0) by omega) with hc | hc | hc
                        · skip
                          rw [if_neg (fun q => by have q1 := q.1; have q2 := q.2; rw [← g_fz2] at q2; omega)] at hf
                          refine lv_aload_n hx hb dL_passes_277 rfl (lv_at hl 0 rfl) ?_
                          refine lv_iload hx hb dL_passes_278 (lv_at hl 11 rfl) ?_
                          refine lv_iconst (v := nI 1) hx hb dL_passes_280 (by decide) ?_
                          refine h_op (st := []) C hS hP hD hl.1 (k_puddle (p := p) (by omega) (q := 1) (by decide)) gL_passes_X4_puddle rfl hd_puddle ⟨Nat.le_of_ble_eq_true rfl, Nat.le_of_ble_eq_true rfl⟩ rfl rfl (Nat.le_of_ble_eq_true rfl) dL_passes_281 ⟨Nat.le_of_ble_eq_true rfl, Nat.le_of_ble_eq_true rfl⟩ (fun H locs hP hD hS => ?_)
                          refine lv_eqi (y := nI (n_wa N1 p)) (e_p1 g1 (p := p) (by omega)) ?_
                          refine lv_bipush (v := nI 19) hx hb dL_passes_284 (by decide) ?_
                          refine lv_icmp_le (tgt := 293) hx hb dL_passes_286 (by decide) (fun c_33 => ?_) (fun c_33 => ?_)
                          · skip
                            refine lv_iconst (v := nI 0) hx hb dL_passes_293 (by decide) ?_
                            refine lv_istore (lv' := [(12, .int (nI 0)), (0, .ref B.1.1), (1, .int (nI 11)), (2, .int (nI (snN (n_wa N) 12))), (3, .int (s_fe v.1)), (4, .int (s_dr v.1)), (5, .int (nI (n_fz N))), (6, .int (s_dk v.1)), (7, .int (nI (pmN N))), (8, .int (s_dy v.1)), (9, .int (nI (snN (n_wa N) 12))), (10, .int (nI 1)), (11, .int (nI p))]) hx hb dL_passes_294 hl (by decide) rfl (fun ls hl => ?_)
                            refine lv_aload_n hx hb dL_passes_296 rfl (lv_at hl 1 rfl) ?_
                            refine lv_iload hx hb dL_passes_297 (lv_at hl 12 rfl) ?_
                            refine lv_iconst (v := nI 1) hx hb dL_passes_299 (by decide) ?_
                            refine h_op (st := []) C hS hP hD hl.1 (k_puddle (p := p) (by omega) (q := 1) (by decide)) gL_passes_X4_puddle rfl hd_puddle ⟨Nat.le_of_ble_eq_true rfl, Nat.le_of_ble_eq_true rfl⟩ rfl rfl (Nat.le_of_ble_eq_true rfl) dL_passes_300 ⟨Nat.le_of_ble_eq_true rfl, Nat.le_of_ble_eq_true rfl⟩ (fun H locs hP hD hS => ?_)
                            refine lv_eqi (y := nI (n_wa N1 p)) (e_p1 g1 (p := p) (by omega)) ?_
                            refine lv_aload_n hx hb dL_passes_303 rfl (lv_at hl 1 rfl) ?_
                            refine lv_iconst (v := nI 2) hx hb dL_passes_304 (by decide) ?_
                            refine h_op (st := [.int (nI (n_wa N1 p))]) C hS hP hD hl.1 (k_count h01 (q := 2) (by decide)) gL_passes_X4_count rfl hd_count ⟨Nat.le_of_ble_eq_true rfl, Nat.le_of_ble_eq_true rfl⟩ rfl rfl (Nat.le_of_ble_eq_true rfl) dL_passes_305 ⟨Nat.le_of_ble_eq_true rfl, Nat.le_of_ble_eq_true rfl⟩ (fun H locs hP hD hS => ?_)
                            refine lv_eqi (y := nI (n_se N1 2)) (g1.se 2 (by omega)) ?_
                            refine lv_icmp_lt (tgt := 325) hx hb dL_passes_308 (by decide) (fun c_34 => ?_) (fun c_34 => ?_)
                            · skip
                              refine lv_iconst (v := nI 0) hx hb dL_passes_325 (by decide) ?_
                              refine lv_istore (lv' := [(13, .int (nI 0)), (12, .int (nI 0)), (0, .ref B.1.1), (1, .int (nI 11)), (2, .int (nI (snN (n_wa N) 12))), (3, .int (s_fe v.1)), (4, .int (s_dr v.1)), (5, .int (nI (n_fz N))), (6, .int (s_dk v.1)), (7, .int (nI (pmN N))), (8, .int (s_dy v.1)), (9, .int (nI (snN (n_wa N) 12))), (10, .int (nI 1)), (11, .int (nI p))]) hx hb dL_passes_326 hl (by decide) rfl (fun ls hl => ?_)
                              refine lv_iload_n hx hb dL_passes_328 rfl (lv_at hl 3 rfl) ?_
                              refine lv_bipush (v := nI 10) hx hb dL_passes_329 (by decide) ?_
                              refine lv_icmp_ne (tgt := 368) hx hb dL_passes_331 (by decide) (fun c_35 => ?_) (fun c_35 => ?_)
                              · skip
                                refine lv_aload_n hx hb dL_passes_368 rfl (lv_at hl 2 rfl) ?_
                                refine lv_iload hx hb dL_passes_369 (lv_at hl 13 rfl) ?_
                                refine lv_iconst (v := nI 4) hx hb dL_passes_371 (by decide) ?_
                                refine h_op (st := []) C hS hP hD hl.1 (k_puddle (p := p) (by omega) (q := 4) (by decide)) gL_passes_X4_puddle rfl hd_puddle ⟨Nat.le_of_ble_eq_true rfl, Nat.le_of_ble_eq_true rfl⟩ rfl rfl (Nat.le_of_ble_eq_true rfl) dL_passes_372 ⟨Nat.le_of_ble_eq_true rfl, Nat.le_of_ble_eq_true rfl⟩ (fun H locs hP hD hS => ?_)
                                refine lv_eqi (y := nI (bN (n_dk N1) p)) (e_p4 g1 g2 (p := p) (by omega)) ?_
                                refine lv_iload hx hb dL_passes_375 (lv_at hl 0 rfl) ?_
                                refine lv_if_eq (tgt := 384) hx hb dL_passes_377 (by decide) (fun c_36 => ?_) (fun c_36 => ?_)
                                · skip
                                  refine lv_iconst (v := nI 0) hx hb dL_passes_384 (by decide) ?_
                                  refine lv_icmp_ne (tgt := 392) hx hb dL_passes_385 (by decide) (fun c_37 => ?_) (fun c_37 => ?_)
                                  · skip
                                    exact absurd ((nI_eq (a := (bN (n_dk N1) p)) (b := 0) (by omega) (by omega)).mpr (by omega)) c_37
                                  · skip
                                    refine lv_iconst (v := nI 1) hx hb dL_passes_388 (by decide) ?_
                                    refine lv_goto (tgt := 393) hx hb dL_passes_389 (by decide) ?_
                                    refine lv_istore (lv' := [(10, .int (nI 1)), (13, .int (nI 0)), (12, .int (nI 0)), (0, .ref B.1.1), (1, .int (nI 11)), (2, .int (nI (snN (n_wa N) 12))), (3, .int (s_fe v.1)), (4, .int (s_dr v.1)), (5, .int (nI (n_fz N))), (6, .int (s_dk v.1)), (7, .int (nI (pmN N))), (8, .int (s_dy v.1)), (9, .int (nI (snN (n_wa N) 12))), (11, .int (nI p))]) hx hb dL_passes_393 hl (by decide) rfl (fun ls hl => ?_)
                                    refine lv_iinc (v := nI (p + 1)) (lv' := [(11, .int (nI (p + 1))), (10, .int (nI 1)), (13, .int (nI 0)), (12, .int (nI 0)), (0, .ref B.1.1), (1, .int (nI 11)), (2, .int (nI (snN (n_wa N) 12))), (3, .int (s_fe v.1)), (4, .int (s_dr v.1)), (5, .int (nI (n_fz N))), (6, .int (s_dk v.1)), (7, .int (nI (pmN N))), (8, .int (s_dy v.1)), (9, .int (nI (snN (n_wa N) 12)))]) hx hb dL_passes_395 hl (k := 13) rfl (nI_1 _) (by decide) rfl (fun ls hl => ?_)
                                    refine lv_goto (tgt := 265) hx hb dL_passes_398 (by decide) ?_
                                    exact ih (p + 1) (by omega) _ _ _ hP (D_of hD rfl) hS (lv_sub hl [4, 5, 6, 7, 8, 9, 10, 11, 12, 13, 1, 0] rfl)
                                · skip
                                  exact absurd (by decide) c_36
                              · skip
                                exact absurd c_35 (by decide)
                            · skip
                              exact absurd (nI_lt (a := (n_wa N1 p)) (b := (n_se N1 2)) (by omega) (by omega)) c_34
                          · skip
                            exact absurd (nI_le (a := (n_wa N1 p)) (b := 19) (by omega) (by omega)) c_33
                        · skip
                          rw [if_neg (fun q => by have q1 := q.1; have q2 := q.2; rw [← g_fz2] at q2; omega)] at hf
                          refine lv_aload_n hx hb dL_passes_277 rfl (lv_at hl 0 rfl) ?_
                          refine lv_iload hx hb dL_passes_278 (lv_at hl 11 rfl) ?_
                          refine lv_iconst (v := nI 1) hx hb dL_passes_280 (by decide) ?_
                          refine h_op (st := []) C hS hP hD hl.1 (k_puddle (p := p) (by omega) (q := 1) (by decide)) gL_passes_X4_puddle rfl hd_puddle ⟨Nat.le_of_ble_eq_true rfl, Nat.le_of_ble_eq_true rfl⟩ rfl rfl (Nat.le_of_ble_eq_true rfl) dL_passes_281 ⟨Nat.le_of_ble_eq_true rfl, Nat.le_of_ble_eq_true rfl⟩ (fun H locs hP hD hS => ?_)
                          refine lv_eqi (y := nI (n_wa N1 p)) (e_p1 g1 (p := p) (by omega)) ?_
                          refine lv_bipush (v := nI 19) hx hb dL_passes_284 (by decide) ?_
                          refine lv_icmp_le (tgt := 293) hx hb dL_passes_286 (by decide) (fun c_38 => ?_) (fun c_38 => ?_)
                          · skip
                            refine lv_iconst (v := nI 0) hx hb dL_passes_293 (by decide) ?_
                            refine lv_istore (lv' := [(12, .int (nI 0)), (0, .ref B.1.1), (1, .int (nI 11)), (2, .int (nI (snN (n_wa N) 12))), (3, .int (s_fe v.1)), (4, .int (s_dr v.1)), (5, .int (nI (n_fz N))), (6, .int (s_dk v.1)), (7, .int (nI (pmN N))), (8, .int (s_dy v.1)), (9, .int (nI (snN (n_wa N) 12))), (10, .int (nI 1)), (11, .int (nI p))]) hx hb dL_passes_294 hl (by decide) rfl (fun ls hl => ?_)
                            refine lv_aload_n hx hb dL_passes_296 rfl (lv_at hl 1 rfl) ?_
                            refine lv_iload hx hb dL_passes_297 (lv_at hl 12 rfl) ?_
                            refine lv_iconst (v := nI 1) hx hb dL_passes_299 (by decide) ?_
                            refine h_op (st := []) C hS hP hD hl.1 (k_puddle (p := p) (by omega) (q := 1) (by decide)) gL_passes_X4_puddle rfl hd_puddle ⟨Nat.le_of_ble_eq_true rfl, Nat.le_of_ble_eq_true rfl⟩ rfl rfl (Nat.le_of_ble_eq_true rfl) dL_passes_300 ⟨Nat.le_of_ble_eq_true rfl, Nat.le_of_ble_eq_true rfl⟩ (fun H locs hP hD hS => ?_)
                            refine lv_eqi (y := nI (n_wa N1 p)) (e_p1 g1 (p := p) (by omega)) ?_
                            refine lv_aload_n hx hb dL_passes_303 rfl (lv_at hl 1 rfl) ?_
                            refine lv_iconst (v := nI 2) hx hb dL_passes_304 (by decide) ?_
                            refine h_op (st := [.int (nI (n_wa N1 p))]) C hS hP hD hl.1 (k_count h01 (q := 2) (by decide)) gL_passes_X4_count rfl hd_count ⟨Nat.le_of_ble_eq_true rfl, Nat.le_of_ble_eq_true rfl⟩ rfl rfl (Nat.le_of_ble_eq_true rfl) dL_passes_305 ⟨Nat.le_of_ble_eq_true rfl, Nat.le_of_ble_eq_true rfl⟩ (fun H locs hP hD hS => ?_)
                            refine lv_eqi (y := nI (n_se N1 2)) (g1.se 2 (by omega)) ?_
                            refine lv_icmp_lt (tgt := 325) hx hb dL_passes_308 (by decide) (fun c_39 => ?_) (fun c_39 => ?_)
                            · skip
                              exact absurd c_39 (nI_nlt (a := (n_wa N1 p)) (b := (n_se N1 2)) (by omega) (by omega))
                            · skip
                              refine lv_aload_n hx hb dL_passes_311 rfl (lv_at hl 1 rfl) ?_
                              refine lv_iload hx hb dL_passes_312 (lv_at hl 12 rfl) ?_
                              refine lv_iconst (v := nI 3) hx hb dL_passes_314 (by decide) ?_
                              refine h_op (st := []) C hS hP hD hl.1 (k_puddle (p := p) (by omega) (q := 3) (by decide)) gL_passes_X4_puddle rfl hd_puddle ⟨Nat.le_of_ble_eq_true rfl, Nat.le_of_ble_eq_true rfl⟩ rfl rfl (Nat.le_of_ble_eq_true rfl) dL_passes_315 ⟨Nat.le_of_ble_eq_true rfl, Nat.le_of_ble_eq_true rfl⟩ (fun H locs hP hD hS => ?_)
                              refine lv_eqi (y := nI (bN (n_fz N1) p)) (e_p3 g1 g2 (p := p) (by omega)) ?_
                              refine lv_if_ne (tgt := 325) hx hb dL_passes_318 (by decide) (fun c_40 => ?_) (fun c_40 => ?_)
                              · skip
                                refine lv_iconst (v := nI 0) hx hb dL_passes_325 (by decide) ?_
                                refine lv_istore (lv' := [(13, .int (nI 0)), (12, .int (nI 0)), (0, .ref B.1.1), (1, .int (nI 11)), (2, .int (nI (snN (n_wa N) 12))), (3, .int (s_fe v.1)), (4, .int (s_dr v.1)), (5, .int (nI (n_fz N))), (6, .int (s_dk v.1)), (7, .int (nI (pmN N))), (8, .int (s_dy v.1)), (9, .int (nI (snN (n_wa N) 12))), (10, .int (nI 1)), (11, .int (nI p))]) hx hb dL_passes_326 hl (by decide) rfl (fun ls hl => ?_)
                                refine lv_iload_n hx hb dL_passes_328 rfl (lv_at hl 3 rfl) ?_
                                refine lv_bipush (v := nI 10) hx hb dL_passes_329 (by decide) ?_
                                refine lv_icmp_ne (tgt := 368) hx hb dL_passes_331 (by decide) (fun c_41 => ?_) (fun c_41 => ?_)
                                · skip
                                  refine lv_aload_n hx hb dL_passes_368 rfl (lv_at hl 2 rfl) ?_
                                  refine lv_iload hx hb dL_passes_369 (lv_at hl 13 rfl) ?_
                                  refine lv_iconst (v := nI 4) hx hb dL_passes_371 (by decide) ?_
                                  refine h_op (st := []) C hS hP hD hl.1 (k_puddle (p := p) (by omega) (q := 4) (by decide)) gL_passes_X4_puddle rfl hd_puddle ⟨Nat.le_of_ble_eq_true rfl, Nat.le_of_ble_eq_true rfl⟩ rfl rfl (Nat.le_of_ble_eq_true rfl) dL_passes_372 ⟨Nat.le_of_ble_eq_true rfl, Nat.le_of_ble_eq_true rfl⟩ (fun H locs hP hD hS => ?_)
                                  refine lv_eqi (y := nI (bN (n_dk N1) p)) (e_p4 g1 g2 (p := p) (by omega)) ?_
                                  refine lv_iload hx hb dL_passes_375 (lv_at hl 0 rfl) ?_
                                  refine lv_if_eq (tgt := 384) hx hb dL_passes_377 (by decide) (fun c_42 => ?_) (fun c_42 => ?_)
                                  · skip
                                    refine lv_iconst (v := nI 0) hx hb dL_passes_384 (by decide) ?_
                                    refine lv_icmp_ne (tgt := 392) hx hb dL_passes_385 (by decide) (fun c_43 => ?_) (fun c_43 => ?_)
                                    · skip
                                      exact absurd ((nI_eq (a := (bN (n_dk N1) p)) (b := 0) (by omega) (by omega)).mpr (by omega)) c_43
                                    · skip
                                      refine lv_iconst (v := nI 1) hx hb dL_passes_388 (by decide) ?_
                                      refine lv_goto (tgt := 393) hx hb dL_passes_389 (by decide) ?_
                                      refine lv_istore (lv' := [(10, .int (nI 1)), (13, .int (nI 0)), (12, .int (nI 0)), (0, .ref B.1.1), (1, .int (nI 11)), (2, .int (nI (snN (n_wa N) 12))), (3, .int (s_fe v.1)), (4, .int (s_dr v.1)), (5, .int (nI (n_fz N))), (6, .int (s_dk v.1)), (7, .int (nI (pmN N))), (8, .int (s_dy v.1)), (9, .int (nI (snN (n_wa N) 12))), (11, .int (nI p))]) hx hb dL_passes_393 hl (by decide) rfl (fun ls hl => ?_)
                                      refine lv_iinc (v := nI (p + 1)) (lv' := [(11, .int (nI (p + 1))), (10, .int (nI 1)), (13, .int (nI 0)), (12, .int (nI 0)), (0, .ref B.1.1), (1, .int (nI 11)), (2, .int (nI (snN (n_wa N) 12))), (3, .int (s_fe v.1)), (4, .int (s_dr v.1)), (5, .int (nI (n_fz N))), (6, .int (s_dk v.1)), (7, .int (nI (pmN N))), (8, .int (s_dy v.1)), (9, .int (nI (snN (n_wa N) 12)))]) hx hb dL_passes_395 hl (k := 13) rfl (nI_1 _) (by decide) rfl (fun ls hl => ?_)
                                      refine lv_goto (tgt := 265) hx hb dL_passes_398 (by decide) ?_
                                      exact ih (p + 1) (by omega) _ _ _ hP (D_of hD rfl) hS (lv_sub hl [4, 5, 6, 7, 8, 9, 10, 11, 12, 13, 1, 0] rfl)
                                  · skip
                                    exact absurd (by decide) c_42
                                · skip
                                  exact absurd c_41 (by decide)
                              · skip
                                exact absurd ((nI_eq (a := (bN (n_fz N1) p)) (b := 0) (by omega) (by omega)).mp c_40) (by omega)
                          · skip
                            exact absurd (nI_le (a := (n_wa N1 p)) (b := 19) (by omega) (by omega)) c_38
                        · skip
                          rw [if_pos ⟨hc.1, by rw [← g_fz2]; exact hc.2⟩] at hf
                          refine lv_aload_n hx hb dL_passes_277 rfl (lv_at hl 0 rfl) ?_
                          refine lv_iload hx hb dL_passes_278 (lv_at hl 11 rfl) ?_
                          refine lv_iconst (v := nI 1) hx hb dL_passes_280 (by decide) ?_
                          refine h_op (st := []) C hS hP hD hl.1 (k_puddle (p := p) (by omega) (q := 1) (by decide)) gL_passes_X4_puddle rfl hd_puddle ⟨Nat.le_of_ble_eq_true rfl, Nat.le_of_ble_eq_true rfl⟩ rfl rfl (Nat.le_of_ble_eq_true rfl) dL_passes_281 ⟨Nat.le_of_ble_eq_true rfl, Nat.le_of_ble_eq_true rfl⟩ (fun H locs hP hD hS => ?_)
                          refine lv_eqi (y := nI (n_wa N1 p)) (e_p1 g1 (p := p) (by omega)) ?_
                          refine lv_bipush (v := nI 19) hx hb dL_passes_284 (by decide) ?_
                          refine lv_icmp_le (tgt := 293) hx hb dL_passes_286 (by decide) (fun c_44 => ?_) (fun c_44 => ?_)
                          · skip
                            refine lv_iconst (v := nI 0) hx hb dL_passes_293 (by decide) ?_
                            refine lv_istore (lv' := [(12, .int (nI 0)), (0, .ref B.1.1), (1, .int (nI 11)), (2, .int (nI (snN (n_wa N) 12))), (3, .int (s_fe v.1)), (4, .int (s_dr v.1)), (5, .int (nI (n_fz N))), (6, .int (s_dk v.1)), (7, .int (nI (pmN N))), (8, .int (s_dy v.1)), (9, .int (nI (snN (n_wa N) 12))), (10, .int (nI 1)), (11, .int (nI p))]) hx hb dL_passes_294 hl (by decide) rfl (fun ls hl => ?_)
                            refine lv_aload_n hx hb dL_passes_296 rfl (lv_at hl 1 rfl) ?_
                            refine lv_iload hx hb dL_passes_297 (lv_at hl 12 rfl) ?_
                            refine lv_iconst (v := nI 1) hx hb dL_passes_299 (by decide) ?_
                            refine h_op (st := []) C hS hP hD hl.1 (k_puddle (p := p) (by omega) (q := 1) (by decide)) gL_passes_X4_puddle rfl hd_puddle ⟨Nat.le_of_ble_eq_true rfl, Nat.le_of_ble_eq_true rfl⟩ rfl rfl (Nat.le_of_ble_eq_true rfl) dL_passes_300 ⟨Nat.le_of_ble_eq_true rfl, Nat.le_of_ble_eq_true rfl⟩ (fun H locs hP hD hS => ?_)
                            refine lv_eqi (y := nI (n_wa N1 p)) (e_p1 g1 (p := p) (by omega)) ?_
                            refine lv_aload_n hx hb dL_passes_303 rfl (lv_at hl 1 rfl) ?_
                            refine lv_iconst (v := nI 2) hx hb dL_passes_304 (by decide) ?_
                            refine h_op (st := [.int (nI (n_wa N1 p))]) C hS hP hD hl.1 (k_count h01 (q := 2) (by decide)) gL_passes_X4_count rfl hd_count ⟨Nat.le_of_ble_eq_true rfl, Nat.le_of_ble_eq_true rfl⟩ rfl rfl (Nat.le_of_ble_eq_true rfl) dL_passes_305 ⟨Nat.le_of_ble_eq_true rfl, Nat.le_of_ble_eq_true rfl⟩ (fun H locs hP hD hS => ?_)
                            refine lv_eqi (y := nI (n_se N1 2)) (g1.se 2 (by omega)) ?_
                            refine lv_icmp_lt (tgt := 325) hx hb dL_passes_308 (by decide) (fun c_45 => ?_) (fun c_45 => ?_)
                            · skip
                              exact absurd c_45 (nI_nlt (a := (n_wa N1 p)) (b := (n_se N1 2)) (by omega) (by omega))
                            · skip
                              refine lv_aload_n hx hb dL_passes_311 rfl (lv_at hl 1 rfl) ?_
                              refine lv_iload hx hb dL_passes_312 (lv_at hl 12 rfl) ?_
                              refine lv_iconst (v := nI 3) hx hb dL_passes_314 (by decide) ?_
                              refine h_op (st := []) C hS hP hD hl.1 (k_puddle (p := p) (by omega) (q := 3) (by decide)) gL_passes_X4_puddle rfl hd_puddle ⟨Nat.le_of_ble_eq_true rfl, Nat.le_of_ble_eq_true rfl⟩ rfl rfl (Nat.le_of_ble_eq_true rfl) dL_passes_315 ⟨Nat.le_of_ble_eq_true rfl, Nat.le_of_ble_eq_true rfl⟩ (fun H locs hP hD hS => ?_)
                              refine lv_eqi (y := nI (bN (n_fz N1) p)) (e_p3 g1 g2 (p := p) (by omega)) ?_
                              refine lv_if_ne (tgt := 325) hx hb dL_passes_318 (by decide) (fun c_46 => ?_) (fun c_46 => ?_)
                              · skip
                                exact absurd ((nI_eq (a := (bN (n_fz N1) p)) (b := 0) (by omega) (by omega)).mpr (by omega)) c_46
                              · skip
                                refine lv_iconst (v := nI 1) hx hb dL_passes_321 (by decide) ?_
                                refine lv_goto (tgt := 326) hx hb dL_passes_322 (by decide) ?_
                                refine lv_istore (lv' := [(13, .int (nI 1)), (12, .int (nI 0)), (0, .ref B.1.1), (1, .int (nI 11)), (2, .int (nI (snN (n_wa N) 12))), (3, .int (s_fe v.1)), (4, .int (s_dr v.1)), (5, .int (nI (n_fz N))), (6, .int (s_dk v.1)), (7, .int (nI (pmN N))), (8, .int (s_dy v.1)), (9, .int (nI (snN (n_wa N) 12))), (10, .int (nI 1)), (11, .int (nI p))]) hx hb dL_passes_326 hl (by decide) rfl (fun ls hl => ?_)
                                refine lv_iload_n hx hb dL_passes_328 rfl (lv_at hl 3 rfl) ?_
                                refine lv_bipush (v := nI 10) hx hb dL_passes_329 (by decide) ?_
                                refine lv_icmp_ne (tgt := 368) hx hb dL_passes_331 (by decide) (fun c_47 => ?_) (fun c_47 => ?_)
                                · skip
                                  refine lv_aload_n hx hb dL_passes_368 rfl (lv_at hl 2 rfl) ?_
                                  refine lv_iload hx hb dL_passes_369 (lv_at hl 13 rfl) ?_
                                  refine lv_iconst (v := nI 4) hx hb dL_passes_371 (by decide) ?_
                                  refine h_op (st := []) C hS hP hD hl.1 (k_puddle (p := p) (by omega) (q := 4) (by decide)) gL_passes_X4_puddle rfl hd_puddle ⟨Nat.le_of_ble_eq_true rfl, Nat.le_of_ble_eq_true rfl⟩ rfl rfl (Nat.le_of_ble_eq_true rfl) dL_passes_372 ⟨Nat.le_of_ble_eq_true rfl, Nat.le_of_ble_eq_true rfl⟩ (fun H locs hP hD hS => ?_)
                                  refine lv_eqi (y := nI (bN (n_dk N1) p)) (e_p4 g1 g2 (p := p) (by omega)) ?_
                                  refine lv_iload hx hb dL_passes_375 (lv_at hl 0 rfl) ?_
                                  refine lv_if_eq (tgt := 384) hx hb dL_passes_377 (by decide) (fun c_48 => ?_) (fun c_48 => ?_)
                                  · skip
                                    exact absurd c_48 (by decide)
                                  · skip
                                    refine lv_iconst (v := nI 1) hx hb dL_passes_380 (by decide) ?_
                                    refine lv_goto (tgt := 385) hx hb dL_passes_381 (by decide) ?_
                                    refine lv_icmp_ne (tgt := 392) hx hb dL_passes_385 (by decide) (fun c_49 => ?_) (fun c_49 => ?_)
                                    · skip
                                      exact absurd ((nI_eq (a := (bN (n_dk N1) p)) (b := 1) (by omega) (by omega)).mpr (by omega)) c_49
                                    · skip
                                      refine lv_iconst (v := nI 1) hx hb dL_passes_388 (by decide) ?_
                                      refine lv_goto (tgt := 393) hx hb dL_passes_389 (by decide) ?_
                                      refine lv_istore (lv' := [(10, .int (nI 1)), (13, .int (nI 1)), (12, .int (nI 0)), (0, .ref B.1.1), (1, .int (nI 11)), (2, .int (nI (snN (n_wa N) 12))), (3, .int (s_fe v.1)), (4, .int (s_dr v.1)), (5, .int (nI (n_fz N))), (6, .int (s_dk v.1)), (7, .int (nI (pmN N))), (8, .int (s_dy v.1)), (9, .int (nI (snN (n_wa N) 12))), (11, .int (nI p))]) hx hb dL_passes_393 hl (by decide) rfl (fun ls hl => ?_)
                                      refine lv_iinc (v := nI (p + 1)) (lv' := [(11, .int (nI (p + 1))), (10, .int (nI 1)), (13, .int (nI 1)), (12, .int (nI 0)), (0, .ref B.1.1), (1, .int (nI 11)), (2, .int (nI (snN (n_wa N) 12))), (3, .int (s_fe v.1)), (4, .int (s_dr v.1)), (5, .int (nI (n_fz N))), (6, .int (s_dk v.1)), (7, .int (nI (pmN N))), (8, .int (s_dy v.1)), (9, .int (nI (snN (n_wa N) 12)))]) hx hb dL_passes_395 hl (k := 13) rfl (nI_1 _) (by decide) rfl (fun ls hl => ?_)
                                      refine lv_goto (tgt := 265) hx hb dL_passes_398 (by decide) ?_
                                      exact ih (p + 1) (by omega) _ _ _ hP (D_of hD rfl) hS (lv_sub hl [4, 5, 6, 7, 8, 9, 10, 11, 12, 13, 1, 0] rfl)
                                · skip
                                  exact absurd c_47 (by decide)
                          · skip
                            exact absurd (nI_le (a := (n_wa N1 p)) (b := 19) (by omega) (by omega)) c_44
              exact loop_265 n12 0 (by omega) _ _ _ hP (D_of hD rfl) hS (lv_sub hl [10, 11, 9, 8, 7, 6, 5, 4, 3, 2, 1, 0] rfl)
            · skip
              exact absurd (by decide) c_6
          · skip
            exact absurd c_5 (by decide)
        · skip
          exact absurd (by decide) c_4
