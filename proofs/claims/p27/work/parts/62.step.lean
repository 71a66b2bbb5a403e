/-! the law: what holds at each turn; the rows of its own -/
def LI (B : AD) (i : Nat) (v : VV) (n : Nat) (hs : Nat → SS) (u : Nat → Option SS) : Prop := Ab B v n hs u ∧ Gd i v.1 ∧ (∀ j, j < n → Gd i (hs j)) ∧ u 1 = some S0c ∧ (∀ X, u 0 = some X → Gd i X)
theorem pcC_blind {b L k sz : Nat} {xs : Nat → Int32} : FrameBlind (pcC b L xs k sz) := fun a U g mk q => ⟨q.1, q.2.1, va_X.moved (u := U) (U := U.calling g mk a) (Vm.Alike.refl U.vm) q.2.2.1, q.2.2.2⟩
theorem recN_2 (n : Nat) (h : n ≤ 6) : (n < 6 ∧ recN n = n + 1) ∨ (n = 6 ∧ recN n = 6) := by
  unfold recN
  by_cases c : n < 6
  · rw [if_pos c]; exact Or.inl ⟨c, rfl⟩
  · rw [if_neg c]; exact Or.inr ⟨by omega, rfl⟩
theorem law_cell {p : Program} {l : Launch} {e : Env} {s : State} {m : MethodId} {below : List Frame} {meth : Method} {c : Code} {b L : Nat} {xs : Nat → Int32} {G : va_G} {ca : Nat → ClassId} {tL tM : Nat} {B : AD} {Q : State → Prop} {H : Heap} {locs : List Loc} {ls : Array Slot} (C : HC p s m c cL_law #[Value.ref b] wsK_law 13 G ca tL tM (AA s)) (hXs : va_X b L xs s s.heap) (hbl : b < s.heap.size) (hL : L ≤ 260) {k : Nat} (hk : k < 100) {v : VV} (hP : va_P G vwCl (XV ca B v) H) (hS : va_S (AA s) s.heap H locs) (hls : ls.size = 13) {st : List Value} (hcat : (st.map fun v => v.category).sum ≤ 8) {pc : Nat} (dg : decode cL_law pc = .ok (.invokestatic 110, 3))
    (kk : ∀ (H1 : Heap) (locs1 : List Loc), va_P G vwCl (XV ca B v) H1 → va_S (AA s) s.heap H1 locs1 → W p l e room_1 s m #[Value.ref b] below meth c H1 locs1 600000 7302250 Q (F0 m (pc + 3) ls (.int (celA L xs k) :: st))) : W p l e room_1 s m #[Value.ref b] below meth c H locs 600000 7302250 Q (F0 m pc ls (.int (nI k) :: .ref b :: st)) := by
  obtain ⟨hx, hb, hmx, hown, hts, hev, hX, hA⟩ := C
  have hbA : ¬ (AA s) b := Nat.not_le.mpr hbl
  have hpre : PreS s H (pcC b L xs k H.size) [.ref b, .int (nI k)] := ⟨pcC_blind, fun U hU hW => ⟨rfl, by rw [hU], va_X.moved hW.alike (by rw [hU]; exact hXs.kept (hS.2.1 b hbl hbA)), by rw [hU]; exact Nat.lt_of_lt_of_le hbl hS.1⟩⟩
  refine va_calli (va_runS (As := [.ref b, .int (nI k)]) (rest := st) ⟨hx, hb, hmx, hown, hts⟩ (c_L_cell l (by omega) hk H.size) (va_cwS 2 hts gK_law_cell rfl rfl rfl hd_L_cell ⟨Nat.le_of_ble_eq_true rfl, Nat.le_of_ble_eq_true rfl⟩) hpre rfl rfl hls rfl (lv_room hcat) dg ⟨Nat.le_of_ble_eq_true rfl, Nat.le_of_ble_eq_true rfl⟩) hS (fun q h1 h2 => absurd h1 (Nat.not_lt.mpr h2)) (fun q h => Nat.le_trans hS.1 h) (fun r' u t H1 locs1 ht _ hw _ _ hk1 hS1 => ?_)
  subst hw
  refine kk H1 locs1 (hP.kept (fun k q hq => hk1 q.1 (hP k q hq).lt (fun z => ?_))) hS1
  have := (hP k q hq).lt
  omega
set_option maxHeartbeats 4000000 in
set_option maxRecDepth 100000 in
theorem law_step0 {p : Program} {l : Launch} {e : Env} {s : State} {m : MethodId} {below : List Frame} {meth : Method} {c : Code} {b L : Nat} {xs : Nat → Int32} {G : va_G} {ca : Nat → ClassId} {tL tM : Nat} {B : AD} {Q : State → Prop} {H : Heap} {locs : List Loc} {ls : Array Slot} (C : HC p s m c cL_law #[Value.ref b] wsK_law 13 G ca tL tM (AA s)) (hXs : va_X b L xs s s.heap) (hbl : b < s.heap.size) (hL : L ≤ 260) {F : SS → Int64} (hF : ∀ v : VV, v.2.2.1 = 0 → CtL l yL_seen wsL_seen rmA [.ref B.1.1] G ca tL tM (XV ca B v) (F v.1)) {v : VV} {n : Nat} {hs : Nat → SS} {u : Nat → Option SS} {i X : Nat} (hi : i < 80) (hX31 : X < 2 ^ 31) (hX : celA L xs i = nI X) (hI : LI B i v n hs u) (hk : CtS l yL_act wsK_act rmB [.ref B.1.1, .int (nI X)] G ca tL tM (XV ca B v) (XV ca B v) (nI 0))
    (hP : va_P G vwCl (XV ca B v) H) (hD : va_D (AA s) (XV ca B v)) (hS : va_S (AA s) s.heap H locs) (hl : lv_has ls 13 [(0, .ref b), (1, .ref B.1.1), (2, .int (nI 1)), (3, .int (nI i))])
    (back : ∀ (v2 : VV) (n2 : Nat) (hs2 : Nat → SS) (u2 : Nat → Option SS) (H : Heap) (locs : List Loc) (ls : Array Slot), LI B (i + 1) v2 n2 hs2 u2 → va_P G vwCl (XV ca B v2) H → va_D (AA s) (XV ca B v2) → va_S (AA s) s.heap H locs → lv_has ls 13 [(0, .ref b), (1, .ref B.1.1), (2, .int (nI 1)), (3, .int (nI i))] → W p l e room_1 s m #[Value.ref b] below meth c H locs 600000 7302250 Q (F0 m 355 ls [])) : W p l e room_1 s m #[Value.ref b] below meth c H locs 600000 7302250 Q (F0 m 128 ls []) := by
  obtain ⟨hx, hb, hml, hown, hts, hev, hX0, hA⟩ := id C
  have hR := hI.1
  have h0 := hR.1
  have hn6 := hR.n6
  have hrec := recN_2 n hn6
  obtain ⟨N, h, bd⟩ := hI.2.1
  refine lv_aload_n hx hb dL_law_128 rfl (lv_at hl 0 rfl) ?_
  refine lv_iload_n hx hb dL_law_129 rfl (lv_at hl 3 rfl) ?_
  refine law_cell (st := []) C hXs hbl hL (k := i) (by omega) hP hS hl.1 (Nat.le_of_ble_eq_true rfl) dL_law_130 (fun H locs hP hS => ?_)
  refine lv_eqi (y := nI X) (by exact hX) ?_
  refine lv_istore (lv' := [(4, .int (nI X)), (0, .ref b), (1, .ref B.1.1), (2, .int (nI 1)), (3, .int (nI i))]) hx hb dL_law_133 hl (by decide) rfl (fun ls hl => ?_)
  refine lv_aload_n hx hb dL_law_135 rfl (lv_at hl 2 rfl) ?_
  refine h_sl (st := []) C hS hP hD hl.1 (hF _ h0) gK_law_seen rfl rfl rfl hd_L_seen ⟨Nat.le_of_ble_eq_true rfl, Nat.le_of_ble_eq_true rfl⟩ rfl rfl (Nat.le_of_ble_eq_true rfl) dL_law_136 ⟨Nat.le_of_ble_eq_true rfl, Nat.le_of_ble_eq_true rfl⟩ (fun H locs hP hD hS => ?_)
  refine lv_lstore (lv' := [(5, .long (F v.1)), (4, .int (nI X)), (0, .ref b), (1, .ref B.1.1), (2, .int (nI 1)), (3, .int (nI i))]) hx hb dL_law_139 hl (by decide) rfl (fun ls hl => ?_)
  refine lv_aload_n hx hb dL_law_141 rfl (lv_at hl 3 rfl) ?_
  refine lv_bipush (v := nI 15) hx hb dL_law_142 (by decide) ?_
  refine h_op (st := []) C hS hP hD hl.1 (k_states hR) (goodIn_ls [] gL_law_X4_count law_l) rfl hd_count ⟨Nat.le_of_ble_eq_true rfl, Nat.le_of_ble_eq_true rfl⟩ rfl rfl (Nat.le_of_ble_eq_true rfl) dL_law_144 ⟨Nat.le_of_ble_eq_true rfl, Nat.le_of_ble_eq_true rfl⟩ (fun H locs hP hD hS => ?_)
  refine lv_istore (lv' := [(7, .int (nI n)), (5, .long (F v.1)), (4, .int (nI X)), (0, .ref b), (1, .ref B.1.1), (2, .int (nI 1)), (3, .int (nI i))]) hx hb dL_law_147 hl (by decide) rfl (fun ls hl => ?_)
  refine lv_aload_n hx hb dL_law_149 rfl (lv_at hl 4 rfl) ?_
  refine lv_iload hx hb dL_law_150 (lv_at hl 2 rfl) ?_
  refine h_st (st := []) C hS hP hD hl.1 (hk) gK_law_act rfl rfl rfl hd_L_act ⟨Nat.le_of_ble_eq_true rfl, Nat.le_of_ble_eq_true rfl⟩ rfl rfl (Nat.le_of_ble_eq_true rfl) dL_law_152 ⟨Nat.le_of_ble_eq_true rfl, Nat.le_of_ble_eq_true rfl⟩ (fun H locs hP hD hS => ?_)
  refine lv_istore (lv' := [(8, .int (nI 0)), (7, .int (nI n)), (5, .long (F v.1)), (4, .int (nI X)), (0, .ref b), (1, .ref B.1.1), (2, .int (nI 1)), (3, .int (nI i))]) hx hb dL_law_155 hl (by decide) rfl (fun ls hl => ?_)
  refine lv_aload_n hx hb dL_law_157 rfl (lv_at hl 5 rfl) ?_
  refine lv_bipush (v := nI 15) hx hb dL_law_158 (by decide) ?_
  refine h_op (st := []) C hS hP hD hl.1 (k_states hR) (goodIn_ls [] gL_law_X4_count law_l) rfl hd_count ⟨Nat.le_of_ble_eq_true rfl, Nat.le_of_ble_eq_true rfl⟩ rfl rfl (Nat.le_of_ble_eq_true rfl) dL_law_160 ⟨Nat.le_of_ble_eq_true rfl, Nat.le_of_ble_eq_true rfl⟩ (fun H locs hP hD hS => ?_)
  refine lv_istore (lv' := [(9, .int (nI n)), (8, .int (nI 0)), (7, .int (nI n)), (5, .long (F v.1)), (4, .int (nI X)), (0, .ref b), (1, .ref B.1.1), (2, .int (nI 1)), (3, .int (nI i))]) hx hb dL_law_163 hl (by decide) rfl (fun ls hl => ?_)
  refine lv_iload hx hb dL_law_165 (lv_at hl 1 rfl) ?_
  refine lv_if_lt (tgt := 254) hx hb dL_law_167 (by decide) (fun c_1 => ?_) (fun c_1 => ?_)
  · skip
    exact absurd c_1 (by decide)
  · skip
    refine lv_iload hx hb dL_law_170 (lv_at hl 1 rfl) ?_
    refine lv_if_ne (tgt := 195) hx hb dL_law_172 (by decide) (fun c_2 => ?_) (fun c_2 => ?_)
    · skip
      exact absurd (by decide) c_2
    · skip
      refine lv_iload hx hb dL_law_175 (lv_at hl 0 rfl) ?_
      refine lv_iload hx hb dL_law_177 (lv_at hl 2 rfl) ?_
      refine lv_icmp_ne (tgt := 254) hx hb dL_law_179 (by decide) (fun c_3 => ?_) (fun c_3 => ?_)
      · skip
        exact absurd ((nI_eq (a := n) (b := n) (by omega) (by omega)).mpr (by omega)) c_3
      · skip
        refine lv_aload_n hx hb dL_law_182 rfl (lv_at hl 6 rfl) ?_
        refine h_sl (st := []) C hS hP hD hl.1 (hF _ h0) gK_law_seen rfl rfl rfl hd_L_seen ⟨Nat.le_of_ble_eq_true rfl, Nat.le_of_ble_eq_true rfl⟩ rfl rfl (Nat.le_of_ble_eq_true rfl) dL_law_183 ⟨Nat.le_of_ble_eq_true rfl, Nat.le_of_ble_eq_true rfl⟩ (fun H locs hP hD hS => ?_)
        refine lv_lload hx hb dL_law_186 (lv_at hl 3 rfl) ?_
        refine W.lcmp hx hb dL_law_188 ?_
        refine lv_if_ne (tgt := 254) hx hb dL_law_189 (by decide) (fun c_4 => ?_) (fun c_4 => ?_)
        · skip
          exact absurd ((lg_cmp_eq _ _).mpr rfl) c_4
        · skip
          refine lv_goto (tgt := 216) hx hb dL_law_192 (by decide) ?_
          have jn_229 : ∀ (H : Heap) (locs : List Loc) (ls : Array Slot), va_P G vwCl (XV ca B v) H → va_D (AA s) (XV ca B v) → va_S (AA s) s.heap H locs → lv_has ls 13 [(9, .int (nI n)), (8, .int (nI 0)), (7, .int (nI n)), (5, .long (F v.1)), (4, .int (nI X)), (0, .ref b), (1, .ref B.1.1), (2, .int (nI 1)), (3, .int (nI i))] → W p l e room_1 s m #[Value.ref b] below meth c H locs 600000 7302250 Q (F0 m 229 ls []) := by
            intro H locs ls hP hD hS hl
            have jn_255 : ∀ (H : Heap) (locs : List Loc) (ls : Array Slot), va_P G vwCl (XV ca B v) H → va_D (AA s) (XV ca B v) → va_S (AA s) s.heap H locs → lv_has ls 13 [(9, .int (nI n)), (8, .int (nI 0)), (7, .int (nI n)), (5, .long (F v.1)), (4, .int (nI X)), (0, .ref b), (1, .ref B.1.1), (2, .int (nI 1)), (3, .int (nI i))] → W p l e room_1 s m #[Value.ref b] below meth c H locs 600000 7302250 Q (F0 m 255 ls [.int (nI 1)]) := by
              intro H locs ls hP hD hS hl
              refine lv_istore_n (lv' := [(2, .int (nI 1)), (9, .int (nI n)), (8, .int (nI 0)), (7, .int (nI n)), (5, .long (F v.1)), (4, .int (nI X)), (0, .ref b), (1, .ref B.1.1), (3, .int (nI i))]) hx hb dL_law_255 rfl hl (by decide) rfl (fun ls hl => ?_)
              refine lv_iload_n hx hb dL_law_256 rfl (lv_at hl 0 rfl) ?_
              refine lv_if_eq (tgt := 355) hx hb dL_law_257 (by decide) (fun c_5 => ?_) (fun c_5 => ?_)
              · skip
                exact absurd c_5 (by decide)
              · skip
                refine lv_iload hx hb dL_law_260 (lv_at hl 2 rfl) ?_
                refine lv_iconst (v := nI 1) hx hb dL_law_262 (by decide) ?_
                refine lv_icmp_ne (tgt := 355) hx hb dL_law_263 (by decide) (fun c_6 => ?_) (fun c_6 => ?_)
                · skip
                  exact back v n hs u _ _ _ ⟨hI.1, hI.2.1.up, fun j hj => (hI.2.2.1 j hj).up, hI.2.2.2.1, fun X q => (hI.2.2.2.2 X q).up⟩ hP hD hS (lv_sub hl [6, 7, 0, 8] rfl)
                · skip
                  exact absurd c_6 (by decide)
            refine lv_iload_n hx hb dL_law_229 rfl (lv_at hl 8 rfl) ?_
            refine lv_bipush (v := nI 7) hx hb dL_law_230 (by decide) ?_
            refine lv_irem hx hb dL_law_232 (by decide) ?_
            refine lv_eqi (pk_rem (by omega) (by omega) (by omega)) ?_
            refine lv_bipush (v := nI 6) hx hb dL_law_233 (by decide) ?_
            refine lv_icmp_ne (tgt := 250) hx hb dL_law_235 (by decide) (fun c_7 => ?_) (fun c_7 => ?_)
            · skip
              have nc_7 : ¬ (i % 7) = 6 := fun q => c_7 ((nI_eq (a := (i % 7)) (b := 6) (by omega) (by omega)).mpr q)
              refine lv_iconst (v := nI 1) hx hb dL_law_250 (by decide) ?_
              refine lv_goto (tgt := 255) hx hb dL_law_251 (by decide) ?_
              exact jn_255 _ _ _ hP hD hS (lv_sub hl [0, 1, 2, 3, 4, 5, 6, 7, 8] rfl)
            · skip
              have nc_7 : (i % 7) = 6 := (nI_eq (a := (i % 7)) (b := 6) (by omega) (by omega)).mp c_7
              refine lv_aload_n hx hb dL_law_238 rfl (lv_at hl 6 rfl) ?_
              refine lv_iload hx hb dL_law_239 (lv_at hl 4 rfl) ?_
              refine lv_bipush (v := nI 7) hx hb dL_law_241 (by decide) ?_
              refine lv_idiv hx hb dL_law_243 (by decide) ?_
              refine lv_eqi (pk_div (by omega) (by omega) (by omega)) ?_
              refine h_st (st := []) C hS hP hD hl.1 (c_L_refuses l G ca tL tM B v n _ _ F hF (X / 7) (by omega) hR) gK_law_refuses rfl rfl rfl hd_L_refuses ⟨Nat.le_of_ble_eq_true rfl, Nat.le_of_ble_eq_true rfl⟩ rfl rfl (Nat.le_of_ble_eq_true rfl) dL_law_244 ⟨Nat.le_of_ble_eq_true rfl, Nat.le_of_ble_eq_true rfl⟩ (fun H locs hP hD hS => ?_)
              refine lv_if_eq (tgt := 254) hx hb dL_law_247 (by decide) (fun c_8 => ?_) (fun c_8 => ?_)
              · skip
                exact absurd c_8 (by decide)
              · skip
                refine lv_iconst (v := nI 1) hx hb dL_law_250 (by decide) ?_
                refine lv_goto (tgt := 255) hx hb dL_law_251 (by decide) ?_
                exact jn_255 _ _ _ hP hD hS (lv_sub hl [0, 1, 2, 3, 4, 5, 6, 7, 8] rfl)
          refine lv_iload_n hx hb dL_law_216 rfl (lv_at hl 8 rfl) ?_
          refine lv_iconst (v := nI 3) hx hb dL_law_217 (by decide) ?_
          refine lv_irem hx hb dL_law_218 (by decide) ?_
          refine lv_eqi (pk_rem (by omega) (by omega) (by omega)) ?_
          refine lv_if_eq (tgt := 229) hx hb dL_law_219 (by decide) (fun c_9 => ?_) (fun c_9 => ?_)
          · skip
            have nc_9 : (i % 3) = 0 := (nI_eq (a := (i % 3)) (b := 0) (by omega) (by omega)).mp c_9
            exact jn_229 _ _ _ hP hD hS (lv_sub hl [0, 1, 2, 3, 4, 5, 6, 7, 8] rfl)
          · skip
            have nc_9 : ¬ (i % 3) = 0 := fun q => c_9 ((nI_eq (a := (i % 3)) (b := 0) (by omega) (by omega)).mpr q)
            refine lv_aload_n hx hb dL_law_222 rfl (lv_at hl 6 rfl) ?_
            refine h_st (st := []) C hS hP hD hl.1 (c_L_areAll l G ca tL tM B v N i 12 6 rfl rfl (by omega) h0 h bd) gK_law_areAll rfl rfl rfl hd_L_areAll ⟨Nat.le_of_ble_eq_true rfl, Nat.le_of_ble_eq_true rfl⟩ rfl rfl (Nat.le_of_ble_eq_true rfl) dL_law_223 ⟨Nat.le_of_ble_eq_true rfl, Nat.le_of_ble_eq_true rfl⟩ (fun H locs hP hD hS => ?_)
            refine lv_if_eq (tgt := 254) hx hb dL_law_226 (by decide) (fun c_10 => ?_) (fun c_10 => ?_)
            · skip
              exact absurd c_10 (by decide)
            · skip
              exact jn_229 _ _ _ hP hD hS (lv_sub hl [0, 1, 2, 3, 4, 5, 6, 7, 8] rfl)
set_option maxHeartbeats 4000000 in
set_option maxRecDepth 100000 in
theorem law_step1 {p : Program} {l : Launch} {e : Env} {s : State} {m : MethodId} {below : List Frame} {meth : Method} {c : Code} {b L : Nat} {xs : Nat → Int32} {G : va_G} {ca : Nat → ClassId} {tL tM : Nat} {B : AD} {Q : State → Prop} {H : Heap} {locs : List Loc} {ls : Array Slot} (C : HC p s m c cL_law #[Value.ref b] wsK_law 13 G ca tL tM (AA s)) (hXs : va_X b L xs s s.heap) (hbl : b < s.heap.size) (hL : L ≤ 260) {F : SS → Int64} (hF : ∀ v : VV, v.2.2.1 = 0 → CtL l yL_seen wsL_seen rmA [.ref B.1.1] G ca tL tM (XV ca B v) (F v.1)) {v : VV} {n : Nat} {hs : Nat → SS} {u : Nat → Option SS} {i X : Nat} (hi : i < 80) (hX31 : X < 2 ^ 31) (hX : celA L xs i = nI X) (hI : LI B i v n hs u) {v1 : VV} (hg1 : Gd (i + 1) v1.1) (hR1 : Ab B v1 (recN n) (consS v.1 hs) u) (hk : CtS l yL_act wsK_act rmB [.ref B.1.1, .int (nI X)] G ca tL tM (XV ca B v) (XV ca B v1) (nI 1))
    (hP : va_P G vwCl (XV ca B v) H) (hD : va_D (AA s) (XV ca B v)) (hS : va_S (AA s) s.heap H locs) (hl : lv_has ls 13 [(0, .ref b), (1, .ref B.1.1), (2, .int (nI 1)), (3, .int (nI i))])
    (back : ∀ (v2 : VV) (n2 : Nat) (hs2 : Nat → SS) (u2 : Nat → Option SS) (H : Heap) (locs : List Loc) (ls : Array Slot), LI B (i + 1) v2 n2 hs2 u2 → va_P G vwCl (XV ca B v2) H → va_D (AA s) (XV ca B v2) → va_S (AA s) s.heap H locs → lv_has ls 13 [(0, .ref b), (1, .ref B.1.1), (2, .int (nI 1)), (3, .int (nI i))] → W p l e room_1 s m #[Value.ref b] below meth c H locs 600000 7302250 Q (F0 m 355 ls [])) : W p l e room_1 s m #[Value.ref b] below meth c H locs 600000 7302250 Q (F0 m 128 ls []) := by
  obtain ⟨hx, hb, hml, hown, hts, hev, hX0, hA⟩ := id C
  have hR := hI.1
  have h0 := hR.1
  have hn6 := hR.n6
  have hrec := recN_2 n hn6
  obtain ⟨N, h, bd⟩ := hg1
  have hg1 : Gd (i + 1) v1.1 := ⟨N, h, bd⟩
  have h01 := hR1.1
  have hgs : ∀ j, j < recN n → Gd (i + 1) (consS v.1 hs j) := by
    intro j hj
    match j, hj with
    | 0, _ => exact hI.2.1.up
    | j + 1, hj => exact (hI.2.2.1 j (by omega)).up
  obtain ⟨v2, hv2, hR2, hk2⟩ := k_save (l := l) (G := G) (ca := ca) (tL := tL) (tM := tM) hR1 (k := 0) (by decide)
  obtain ⟨v3, hv3, hR3, hk3⟩ := k_undo (l := l) (G := G) (ca := ca) (tL := tL) (tM := tM) hR2 (by omega)
  have hv3 : v3.1 = v.1 := hv3
  obtain ⟨v4, hv4, hR4, hk4⟩ := k_restore (l := l) (G := G) (ca := ca) (tL := tL) (tM := tM) hR3 (k := 0) (by decide) (X := v1.1) rfl
  have hrec2 := recN_2 (recN n - 1) hR3.n6
  have hg4 : Gd (i + 1) v4.1 := by rw [hv4]; exact hg1
  have hgs4 : ∀ j, j < recN (recN n - 1) → Gd (i + 1) (consS v3.1 (fun i => consS v.1 hs (i + 1)) j) := by
    intro j hj
    match j, hj with
    | 0, _ => show Gd (i + 1) v3.1; rw [hv3]; exact hI.2.1.up
    | j + 1, hj => exact (hI.2.2.1 j (by omega)).up
  have hu4 : ∀ X, updU u 0 v1.1 0 = some X → Gd (i + 1) X := fun X q => by obtain rfl := Option.some.inj q; exact hg1
  refine lv_aload_n hx hb dL_law_128 rfl (lv_at hl 0 rfl) ?_
  refine lv_iload_n hx hb dL_law_129 rfl (lv_at hl 3 rfl) ?_
  refine law_cell (st := []) C hXs hbl hL (k := i) (by omega) hP hS hl.1 (Nat.le_of_ble_eq_true rfl) dL_law_130 (fun H locs hP hS => ?_)
  refine lv_eqi (y := nI X) (by exact hX) ?_
  refine lv_istore (lv' := [(4, .int (nI X)), (0, .ref b), (1, .ref B.1.1), (2, .int (nI 1)), (3, .int (nI i))]) hx hb dL_law_133 hl (by decide) rfl (fun ls hl => ?_)
  refine lv_aload_n hx hb dL_law_135 rfl (lv_at hl 2 rfl) ?_
  refine h_sl (st := []) C hS hP hD hl.1 (hF _ h0) gK_law_seen rfl rfl rfl hd_L_seen ⟨Nat.le_of_ble_eq_true rfl, Nat.le_of_ble_eq_true rfl⟩ rfl rfl (Nat.le_of_ble_eq_true rfl) dL_law_136 ⟨Nat.le_of_ble_eq_true rfl, Nat.le_of_ble_eq_true rfl⟩ (fun H locs hP hD hS => ?_)
  refine lv_lstore (lv' := [(5, .long (F v.1)), (4, .int (nI X)), (0, .ref b), (1, .ref B.1.1), (2, .int (nI 1)), (3, .int (nI i))]) hx hb dL_law_139 hl (by decide) rfl (fun ls hl => ?_)
  refine lv_aload_n hx hb dL_law_141 rfl (lv_at hl 3 rfl) ?_
  refine lv_bipush (v := nI 15) hx hb dL_law_142 (by decide) ?_
  refine h_op (st := []) C hS hP hD hl.1 (k_states hR) (goodIn_ls [] gL_law_X4_count law_l) rfl hd_count ⟨Nat.le_of_ble_eq_true rfl, Nat.le_of_ble_eq_true rfl⟩ rfl rfl (Nat.le_of_ble_eq_true rfl) dL_law_144 ⟨Nat.le_of_ble_eq_true rfl, Nat.le_of_ble_eq_true rfl⟩ (fun H locs hP hD hS => ?_)
  refine lv_istore (lv' := [(7, .int (nI n)), (5, .long (F v.1)), (4, .int (nI X)), (0, .ref b), (1, .ref B.1.1), (2, .int (nI 1)), (3, .int (nI i))]) hx hb dL_law_147 hl (by decide) rfl (fun ls hl => ?_)
  refine lv_aload_n hx hb dL_law_149 rfl (lv_at hl 4 rfl) ?_
  refine lv_iload hx hb dL_law_150 (lv_at hl 2 rfl) ?_
  refine h_st (st := []) C hS hP hD hl.1 (hk) gK_law_act rfl rfl rfl hd_L_act ⟨Nat.le_of_ble_eq_true rfl, Nat.le_of_ble_eq_true rfl⟩ rfl rfl (Nat.le_of_ble_eq_true rfl) dL_law_152 ⟨Nat.le_of_ble_eq_true rfl, Nat.le_of_ble_eq_true rfl⟩ (fun H locs hP hD hS => ?_)
  refine lv_istore (lv' := [(8, .int (nI 1)), (7, .int (nI n)), (5, .long (F v.1)), (4, .int (nI X)), (0, .ref b), (1, .ref B.1.1), (2, .int (nI 1)), (3, .int (nI i))]) hx hb dL_law_155 hl (by decide) rfl (fun ls hl => ?_)
  refine lv_aload_n hx hb dL_law_157 rfl (lv_at hl 5 rfl) ?_
  refine lv_bipush (v := nI 15) hx hb dL_law_158 (by decide) ?_
  refine h_op (st := []) C hS hP hD hl.1 (k_states hR1) (goodIn_ls [] gL_law_X4_count law_l) rfl hd_count ⟨Nat.le_of_ble_eq_true rfl, Nat.le_of_ble_eq_true rfl⟩ rfl rfl (Nat.le_of_ble_eq_true rfl) dL_law_160 ⟨Nat.le_of_ble_eq_true rfl, Nat.le_of_ble_eq_true rfl⟩ (fun H locs hP hD hS => ?_)
  refine lv_istore (lv' := [(9, .int (nI (recN n))), (8, .int (nI 1)), (7, .int (nI n)), (5, .long (F v.1)), (4, .int (nI X)), (0, .ref b), (1, .ref B.1.1), (2, .int (nI 1)), (3, .int (nI i))]) hx hb dL_law_163 hl (by decide) rfl (fun ls hl => ?_)
  refine lv_iload hx hb dL_law_165 (lv_at hl 1 rfl) ?_
  refine lv_if_lt (tgt := 254) hx hb dL_law_167 (by decide) (fun c_1 => ?_) (fun c_1 => ?_)
  · skip
    exact absurd c_1 (by decide)
  · skip
    refine lv_iload hx hb dL_law_170 (lv_at hl 1 rfl) ?_
    refine lv_if_ne (tgt := 195) hx hb dL_law_172 (by decide) (fun c_2 => ?_) (fun c_2 => ?_)
    · skip
      have jn_216 : ∀ (H : Heap) (locs : List Loc) (ls : Array Slot), va_P G vwCl (XV ca B v1) H → va_D (AA s) (XV ca B v1) → va_S (AA s) s.heap H locs → lv_has ls 13 [(9, .int (nI (recN n))), (8, .int (nI 1)), (7, .int (nI n)), (5, .long (F v.1)), (4, .int (nI X)), (0, .ref b), (1, .ref B.1.1), (2, .int (nI 1)), (3, .int (nI i))] → W p l e room_1 s m #[Value.ref b] below meth c H locs 600000 7302250 Q (F0 m 216 ls []) := by
        intro H locs ls hP hD hS hl
        have jn_229 : ∀ (H : Heap) (locs : List Loc) (ls : Array Slot), va_P G vwCl (XV ca B v1) H → va_D (AA s) (XV ca B v1) → va_S (AA s) s.heap H locs → lv_has ls 13 [(9, .int (nI (recN n))), (8, .int (nI 1)), (7, .int (nI n)), (5, .long (F v.1)), (4, .int (nI X)), (0, .ref b), (1, .ref B.1.1), (2, .int (nI 1)), (3, .int (nI i))] → W p l e room_1 s m #[Value.ref b] below meth c H locs 600000 7302250 Q (F0 m 229 ls []) := by
          intro H locs ls hP hD hS hl
          have jn_255 : ∀ (H : Heap) (locs : List Loc) (ls : Array Slot), va_P G vwCl (XV ca B v1) H → va_D (AA s) (XV ca B v1) → va_S (AA s) s.heap H locs → lv_has ls 13 [(9, .int (nI (recN n))), (8, .int (nI 1)), (7, .int (nI n)), (5, .long (F v.1)), (4, .int (nI X)), (0, .ref b), (1, .ref B.1.1), (2, .int (nI 1)), (3, .int (nI i))] → W p l e room_1 s m #[Value.ref b] below meth c H locs 600000 7302250 Q (F0 m 255 ls [.int (nI 1)]) := by
            intro H locs ls hP hD hS hl
            refine lv_istore_n (lv' := [(2, .int (nI 1)), (9, .int (nI (recN n))), (8, .int (nI 1)), (7, .int (nI n)), (5, .long (F v.1)), (4, .int (nI X)), (0, .ref b), (1, .ref B.1.1), (3, .int (nI i))]) hx hb dL_law_255 rfl hl (by decide) rfl (fun ls hl => ?_)
            refine lv_iload_n hx hb dL_law_256 rfl (lv_at hl 0 rfl) ?_
            refine lv_if_eq (tgt := 355) hx hb dL_law_257 (by decide) (fun c_3 => ?_) (fun c_3 => ?_)
            · skip
              exact absurd c_3 (by decide)
            · skip
              refine lv_iload hx hb dL_law_260 (lv_at hl 2 rfl) ?_
              refine lv_iconst (v := nI 1) hx hb dL_law_262 (by decide) ?_
              refine lv_icmp_ne (tgt := 355) hx hb dL_law_263 (by decide) (fun c_4 => ?_) (fun c_4 => ?_)
              · skip
                exact absurd (by decide) c_4
              · skip
                refine lv_iload hx hb dL_law_266 (lv_at hl 5 rfl) ?_
                refine lv_bipush (v := nI 17) hx hb dL_law_268 (by decide) ?_
                refine lv_idiv hx hb dL_law_270 (by decide) ?_
                refine lv_eqi (pk_div (by omega) (by omega) (by omega)) ?_
                refine lv_iconst (v := nI 4) hx hb dL_law_271 (by decide) ?_
                refine lv_irem hx hb dL_law_272 (by decide) ?_
                refine lv_eqi (pk_rem (by omega) (by omega) (by omega)) ?_
                refine lv_if_ne (tgt := 355) hx hb dL_law_273 (by decide) (fun c_5 => ?_) (fun c_5 => ?_)
                · skip
                  have nc_5 : ¬ ((X / 17) % 4) = 0 := fun q => c_5 ((nI_eq (a := ((X / 17) % 4)) (b := 0) (by omega) (by omega)).mpr q)
                  exact back v1 (recN n) (consS v.1 hs) u _ _ _ ⟨hR1, hg1, hgs, hI.2.2.2.1, fun X q => (hI.2.2.2.2 X q).up⟩ hP hD hS (lv_sub hl [6, 7, 0, 8] rfl)
                · skip
                  have nc_5 : ((X / 17) % 4) = 0 := (nI_eq (a := ((X / 17) % 4)) (b := 0) (by omega) (by omega)).mp c_5
                  refine lv_aload_n hx hb dL_law_276 rfl (lv_at hl 7 rfl) ?_
                  refine h_sl (st := []) C hS hP hD hl.1 (hF _ h01) gK_law_seen rfl rfl rfl hd_L_seen ⟨Nat.le_of_ble_eq_true rfl, Nat.le_of_ble_eq_true rfl⟩ rfl rfl (Nat.le_of_ble_eq_true rfl) dL_law_277 ⟨Nat.le_of_ble_eq_true rfl, Nat.le_of_ble_eq_true rfl⟩ (fun H locs hP hD hS => ?_)
                  refine lv_lstore (lv' := [(10, .long (F v1.1)), (2, .int (nI 1)), (9, .int (nI (recN n))), (8, .int (nI 1)), (7, .int (nI n)), (5, .long (F v.1)), (4, .int (nI X)), (0, .ref b), (1, .ref B.1.1), (3, .int (nI i))]) hx hb dL_law_280 hl (by decide) rfl (fun ls hl => ?_)
                  refine lv_aload_n hx hb dL_law_282 rfl (lv_at hl 8 rfl) ?_
                  refine lv_iconst (v := nI 0) hx hb dL_law_283 (by decide) ?_
                  refine h_op (st := []) C hS hP hD hl.1 (hk2) (goodIn_ls [] gL_law_X4_save law_l) rfl hd_save ⟨Nat.le_of_ble_eq_true rfl, Nat.le_of_ble_eq_true rfl⟩ rfl rfl (Nat.le_of_ble_eq_true rfl) dL_law_284 ⟨Nat.le_of_ble_eq_true rfl, Nat.le_of_ble_eq_true rfl⟩ (fun H locs hP hD hS => ?_)
                  refine lv_istore (lv' := [(12, .int (s_dy v1.1)), (10, .long (F v1.1)), (2, .int (nI 1)), (9, .int (nI (recN n))), (8, .int (nI 1)), (7, .int (nI n)), (5, .long (F v.1)), (4, .int (nI X)), (0, .ref b), (1, .ref B.1.1), (3, .int (nI i))]) hx hb dL_law_287 hl (by decide) rfl (fun ls hl => ?_)
                  refine lv_iload hx hb dL_law_289 (lv_at hl 0 rfl) ?_
                  refine lv_aload_n hx hb dL_law_291 rfl (lv_at hl 9 rfl) ?_
                  refine lv_iconst (v := nI 4) hx hb dL_law_292 (by decide) ?_
                  refine h_op (st := [.int (s_dy v1.1)]) C hS hP hD hl.1 (k_count hR2.1 (q := 4) (by decide)) (goodIn_ls [] gL_law_X4_count law_l) rfl hd_count ⟨Nat.le_of_ble_eq_true rfl, Nat.le_of_ble_eq_true rfl⟩ rfl rfl (Nat.le_of_ble_eq_true rfl) dL_law_293 ⟨Nat.le_of_ble_eq_true rfl, Nat.le_of_ble_eq_true rfl⟩ (fun H locs hP hD hS => ?_)
                  refine lv_eqi (y := s_dy v1.1) ((show s_dy v2.1 = s_dy v1.1 by rw [hv2])) ?_
                  refine lv_icmp_ne (tgt := 353) hx hb dL_law_296 (by decide) (fun c_6 => ?_) (fun c_6 => ?_)
                  · skip
                    exact absurd rfl c_6
                  · skip
                    refine lv_aload_n hx hb dL_law_299 rfl (lv_at hl 9 rfl) ?_
                    refine h_op (st := []) C hS hP hD hl.1 (hk3) (goodIn_ls [] gL_law_X4_undo law_l) rfl hd_undo ⟨Nat.le_of_ble_eq_true rfl, Nat.le_of_ble_eq_true rfl⟩ rfl rfl (Nat.le_of_ble_eq_true rfl) dL_law_300 ⟨Nat.le_of_ble_eq_true rfl, Nat.le_of_ble_eq_true rfl⟩ (fun H locs hP hD hS => ?_)
                    refine lv_iload hx hb dL_law_303 (lv_at hl 5 rfl) ?_
                    refine lv_bipush (v := nI 6) hx hb dL_law_305 (by decide) ?_
                    refine lv_icmp_ge (tgt := 315) hx hb dL_law_307 (by decide) (fun c_7 => ?_) (fun c_7 => ?_)
                    · skip
                      have nc_7 : 6 ≤ n := (nI_leI (a := 6) (b := n) (by omega) (by omega)).mp c_7
                      refine lv_iconst (v := nI 5) hx hb dL_law_315 (by decide) ?_
                      refine lv_icmp_ne (tgt := 353) hx hb dL_law_316 (by decide) (fun c_8 => ?_) (fun c_8 => ?_)
                      · skip
                        exact absurd ((nI_eq (a := (recN n - 1)) (b := 5) (by omega) (by omega)).mpr (by omega)) c_8
                      · skip
                        refine lv_aload_n hx hb dL_law_319 rfl (lv_at hl 9 rfl) ?_
                        refine h_sl (st := []) C hS hP hD hl.1 (hF _ hR3.1) gK_law_seen rfl rfl rfl hd_L_seen ⟨Nat.le_of_ble_eq_true rfl, Nat.le_of_ble_eq_true rfl⟩ rfl rfl (Nat.le_of_ble_eq_true rfl) dL_law_320 ⟨Nat.le_of_ble_eq_true rfl, Nat.le_of_ble_eq_true rfl⟩ (fun H locs hP hD hS => ?_)
                        refine lv_lload hx hb dL_law_323 (lv_at hl 6 rfl) ?_
                        refine W.lcmp hx hb dL_law_325 ?_
                        refine lv_if_ne (tgt := 353) hx hb dL_law_326 (by decide) (fun c_9 => ?_) (fun c_9 => ?_)
                        · skip
                          exact absurd ((lg_cmp_eq _ _).mpr (by rw [hv3])) c_9
                        · skip
                          refine lv_aload_n hx hb dL_law_329 rfl (lv_at hl 9 rfl) ?_
                          refine lv_iconst (v := nI 0) hx hb dL_law_330 (by decide) ?_
                          refine h_op (st := []) C hS hP hD hl.1 (hk4) (goodIn_ls [] gL_law_X4_restore law_l) rfl hd_restore ⟨Nat.le_of_ble_eq_true rfl, Nat.le_of_ble_eq_true rfl⟩ rfl rfl (Nat.le_of_ble_eq_true rfl) dL_law_331 ⟨Nat.le_of_ble_eq_true rfl, Nat.le_of_ble_eq_true rfl⟩ (fun H locs hP hD hS => ?_)
                          refine lv_iload hx hb dL_law_334 (lv_at hl 0 rfl) ?_
                          refine lv_icmp_ne (tgt := 353) hx hb dL_law_336 (by decide) (fun c_10 => ?_) (fun c_10 => ?_)
                          · skip
                            exact absurd rfl c_10
                          · skip
                            refine lv_aload_n hx hb dL_law_339 rfl (lv_at hl 9 rfl) ?_
                            refine h_sl (st := []) C hS hP hD hl.1 (hF _ hR4.1) gK_law_seen rfl rfl rfl hd_L_seen ⟨Nat.le_of_ble_eq_true rfl, Nat.le_of_ble_eq_true rfl⟩ rfl rfl (Nat.le_of_ble_eq_true rfl) dL_law_340 ⟨Nat.le_of_ble_eq_true rfl, Nat.le_of_ble_eq_true rfl⟩ (fun H locs hP hD hS => ?_)
                            refine lv_lload hx hb dL_law_343 (lv_at hl 1 rfl) ?_
                            refine W.lcmp hx hb dL_law_345 ?_
                            refine lv_if_ne (tgt := 353) hx hb dL_law_346 (by decide) (fun c_11 => ?_) (fun c_11 => ?_)
                            · skip
                              exact absurd ((lg_cmp_eq _ _).mpr (by rw [hv4])) c_11
                            · skip
                              refine lv_iconst (v := nI 1) hx hb dL_law_349 (by decide) ?_
                              refine lv_goto (tgt := 354) hx hb dL_law_350 (by decide) ?_
                              refine lv_istore_n (lv' := [(2, .int (nI 1)), (12, .int (s_dy v1.1)), (10, .long (F v1.1)), (9, .int (nI (recN n))), (8, .int (nI 1)), (7, .int (nI n)), (5, .long (F v.1)), (4, .int (nI X)), (0, .ref b), (1, .ref B.1.1), (3, .int (nI i))]) hx hb dL_law_354 rfl hl (by decide) rfl (fun ls hl => ?_)
                              exact back v4 _ _ _ _ _ _ ⟨hR4, hg4, hgs4, hI.2.2.2.1, fun X q => hu4 X q⟩ hP hD hS (lv_sub hl [8, 9, 0, 10] rfl)
                    · skip
                      have nc_7 : ¬ 6 ≤ n := fun q => c_7 ((nI_leI (a := 6) (b := n) (by omega) (by omega)).mpr q)
                      refine lv_iload hx hb dL_law_310 (lv_at hl 5 rfl) ?_
                      refine lv_goto (tgt := 316) hx hb dL_law_312 (by decide) ?_
                      refine lv_icmp_ne (tgt := 353) hx hb dL_law_316 (by decide) (fun c_12 => ?_) (fun c_12 => ?_)
                      · skip
                        exact absurd ((nI_eq (a := (recN n - 1)) (b := n) (by omega) (by omega)).mpr (by omega)) c_12
                      · skip
                        refine lv_aload_n hx hb dL_law_319 rfl (lv_at hl 9 rfl) ?_
                        refine h_sl (st := []) C hS hP hD hl.1 (hF _ hR3.1) gK_law_seen rfl rfl rfl hd_L_seen ⟨Nat.le_of_ble_eq_true rfl, Nat.le_of_ble_eq_true rfl⟩ rfl rfl (Nat.le_of_ble_eq_true rfl) dL_law_320 ⟨Nat.le_of_ble_eq_true rfl, Nat.le_of_ble_eq_true rfl⟩ (fun H locs hP hD hS => ?_)
                        refine lv_lload hx hb dL_law_323 (lv_at hl 6 rfl) ?_
                        refine W.lcmp hx hb dL_law_325 ?_
                        refine lv_if_ne (tgt := 353) hx hb dL_law_326 (by decide) (fun c_13 => ?_) (fun c_13 => ?_)
                        · skip
                          exact absurd ((lg_cmp_eq _ _).mpr (by rw [hv3])) c_13
                        · skip
                          refine lv_aload_n hx hb dL_law_329 rfl (lv_at hl 9 rfl) ?_
                          refine lv_iconst (v := nI 0) hx hb dL_law_330 (by decide) ?_
                          refine h_op (st := []) C hS hP hD hl.1 (hk4) (goodIn_ls [] gL_law_X4_restore law_l) rfl hd_restore ⟨Nat.le_of_ble_eq_true rfl, Nat.le_of_ble_eq_true rfl⟩ rfl rfl (Nat.le_of_ble_eq_true rfl) dL_law_331 ⟨Nat.le_of_ble_eq_true rfl, Nat.le_of_ble_eq_true rfl⟩ (fun H locs hP hD hS => ?_)
                          refine lv_iload hx hb dL_law_334 (lv_at hl 0 rfl) ?_
                          refine lv_icmp_ne (tgt := 353) hx hb dL_law_336 (by decide) (fun c_14 => ?_) (fun c_14 => ?_)
                          · skip
                            exact absurd rfl c_14
                          · skip
                            refine lv_aload_n hx hb dL_law_339 rfl (lv_at hl 9 rfl) ?_
                            refine h_sl (st := []) C hS hP hD hl.1 (hF _ hR4.1) gK_law_seen rfl rfl rfl hd_L_seen ⟨Nat.le_of_ble_eq_true rfl, Nat.le_of_ble_eq_true rfl⟩ rfl rfl (Nat.le_of_ble_eq_true rfl) dL_law_340 ⟨Nat.le_of_ble_eq_true rfl, Nat.le_of_ble_eq_true rfl⟩ (fun H locs hP hD hS => ?_)
                            refine lv_lload hx hb dL_law_343 (lv_at hl 1 rfl) ?_
                            refine W.lcmp hx hb dL_law_345 ?_
                            refine lv_if_ne (tgt := 353) hx hb dL_law_346 (by decide) (fun c_15 => ?_) (fun c_15 => ?_)
                            · skip
                              exact absurd ((lg_cmp_eq _ _).mpr (by rw [hv4])) c_15
                            · skip
                              refine lv_iconst (v := nI 1) hx hb dL_law_349 (by decide) ?_
                              refine lv_goto (tgt := 354) hx hb dL_law_350 (by decide) ?_
                              refine lv_istore_n (lv' := [(2, .int (nI 1)), (12, .int (s_dy v1.1)), (10, .long (F v1.1)), (9, .int (nI (recN n))), (8, .int (nI 1)), (7, .int (nI n)), (5, .long (F v.1)), (4, .int (nI X)), (0, .ref b), (1, .ref B.1.1), (3, .int (nI i))]) hx hb dL_law_354 rfl hl (by decide) rfl (fun ls hl => ?_)
                              exact back v4 _ _ _ _ _ _ ⟨hR4, hg4, hgs4, hI.2.2.2.1, fun X q => hu4 X q⟩ hP hD hS (lv_sub hl [8, 9, 0, 10] rfl)
          refine lv_iload_n hx hb dL_law_229 rfl (lv_at hl 8 rfl) ?_
          refine lv_bipush (v := nI 7) hx hb dL_law_230 (by decide) ?_
          refine lv_irem hx hb dL_law_232 (by decide) ?_
          refine lv_eqi (pk_rem (by omega) (by omega) (by omega)) ?_
          refine lv_bipush (v := nI 6) hx hb dL_law_233 (by decide) ?_
          refine lv_icmp_ne (tgt := 250) hx hb dL_law_235 (by decide) (fun c_16 => ?_) (fun c_16 => ?_)
          · skip
            have nc_16 : ¬ (i % 7) = 6 := fun q => c_16 ((nI_eq (a := (i % 7)) (b := 6) (by omega) (by omega)).mpr q)
            refine lv_iconst (v := nI 1) hx hb dL_law_250 (by decide) ?_
            refine lv_goto (tgt := 255) hx hb dL_law_251 (by decide) ?_
            exact jn_255 _ _ _ hP hD hS (lv_sub hl [0, 1, 2, 3, 4, 5, 6, 7, 8] rfl)
          · skip
            have nc_16 : (i % 7) = 6 := (nI_eq (a := (i % 7)) (b := 6) (by omega) (by omega)).mp c_16
            refine lv_aload_n hx hb dL_law_238 rfl (lv_at hl 6 rfl) ?_
            refine lv_iload hx hb dL_law_239 (lv_at hl 4 rfl) ?_
            refine lv_bipush (v := nI 7) hx hb dL_law_241 (by decide) ?_
            refine lv_idiv hx hb dL_law_243 (by decide) ?_
            refine lv_eqi (pk_div (by omega) (by omega) (by omega)) ?_
            refine h_st (st := []) C hS hP hD hl.1 (c_L_refuses l G ca tL tM B v1 (recN n) _ _ F hF (X / 7) (by omega) hR1) gK_law_refuses rfl rfl rfl hd_L_refuses ⟨Nat.le_of_ble_eq_true rfl, Nat.le_of_ble_eq_true rfl⟩ rfl rfl (Nat.le_of_ble_eq_true rfl) dL_law_244 ⟨Nat.le_of_ble_eq_true rfl, Nat.le_of_ble_eq_true rfl⟩ (fun H locs hP hD hS => ?_)
            refine lv_if_eq (tgt := 254) hx hb dL_law_247 (by decide) (fun c_17 => ?_) (fun c_17 => ?_)
            · skip
              exact absurd c_17 (by decide)
            · skip
              refine lv_iconst (v := nI 1) hx hb dL_law_250 (by decide) ?_
              refine lv_goto (tgt := 255) hx hb dL_law_251 (by decide) ?_
              exact jn_255 _ _ _ hP hD hS (lv_sub hl [0, 1, 2, 3, 4, 5, 6, 7, 8] rfl)
        refine lv_iload_n hx hb dL_law_216 rfl (lv_at hl 8 rfl) ?_
        refine lv_iconst (v := nI 3) hx hb dL_law_217 (by decide) ?_
        refine lv_irem hx hb dL_law_218 (by decide) ?_
        refine lv_eqi (pk_rem (by omega) (by omega) (by omega)) ?_
        refine lv_if_eq (tgt := 229) hx hb dL_law_219 (by decide) (fun c_18 => ?_) (fun c_18 => ?_)
        · skip
          have nc_18 : (i % 3) = 0 := (nI_eq (a := (i % 3)) (b := 0) (by omega) (by omega)).mp c_18
          exact jn_229 _ _ _ hP hD hS (lv_sub hl [0, 1, 2, 3, 4, 5, 6, 7, 8] rfl)
        · skip
          have nc_18 : ¬ (i % 3) = 0 := fun q => c_18 ((nI_eq (a := (i % 3)) (b := 0) (by omega) (by omega)).mpr q)
          refine lv_aload_n hx hb dL_law_222 rfl (lv_at hl 6 rfl) ?_
          refine h_st (st := []) C hS hP hD hl.1 (c_L_areAll l G ca tL tM B v1 N (i + 1) 12 6 rfl rfl (by omega) h01 h bd) gK_law_areAll rfl rfl rfl hd_L_areAll ⟨Nat.le_of_ble_eq_true rfl, Nat.le_of_ble_eq_true rfl⟩ rfl rfl (Nat.le_of_ble_eq_true rfl) dL_law_223 ⟨Nat.le_of_ble_eq_true rfl, Nat.le_of_ble_eq_true rfl⟩ (fun H locs hP hD hS => ?_)
          refine lv_if_eq (tgt := 254) hx hb dL_law_226 (by decide) (fun c_19 => ?_) (fun c_19 => ?_)
          · skip
            exact absurd c_19 (by decide)
          · skip
            exact jn_229 _ _ _ hP hD hS (lv_sub hl [0, 1, 2, 3, 4, 5, 6, 7, 8] rfl)
      refine lv_iload hx hb dL_law_195 (lv_at hl 0 rfl) ?_
      refine lv_iload hx hb dL_law_197 (lv_at hl 2 rfl) ?_
      refine lv_bipush (v := nI 6) hx hb dL_law_199 (by decide) ?_
      refine lv_icmp_ge (tgt := 211) hx hb dL_law_201 (by decide) (fun c_20 => ?_) (fun c_20 => ?_)
      · skip
        have nc_20 : 6 ≤ n := (nI_leI (a := 6) (b := n) (by omega) (by omega)).mp c_20
        refine lv_bipush (v := nI 6) hx hb dL_law_211 (by decide) ?_
        refine lv_icmp_ne (tgt := 254) hx hb dL_law_213 (by decide) (fun c_21 => ?_) (fun c_21 => ?_)
        · skip
          exact absurd ((nI_eq (a := (recN n)) (b := 6) (by omega) (by omega)).mpr (by omega)) c_21
        · skip
          exact jn_216 _ _ _ hP hD hS (lv_sub hl [0, 1, 2, 3, 4, 5, 6, 7, 8] rfl)
      · skip
        have nc_20 : ¬ 6 ≤ n := fun q => c_20 ((nI_leI (a := 6) (b := n) (by omega) (by omega)).mpr q)
        refine lv_iload hx hb dL_law_204 (lv_at hl 2 rfl) ?_
        refine lv_iconst (v := nI 1) hx hb dL_law_206 (by decide) ?_
        refine lv_iadd hx hb dL_law_207 ?_
        refine lv_eqi (nI_add _ _) ?_
        refine lv_goto (tgt := 213) hx hb dL_law_208 (by decide) ?_
        refine lv_icmp_ne (tgt := 254) hx hb dL_law_213 (by decide) (fun c_22 => ?_) (fun c_22 => ?_)
        · skip
          exact absurd ((nI_eq (a := (recN n)) (b := (n + 1)) (by omega) (by omega)).mpr (by omega)) c_22
        · skip
          exact jn_216 _ _ _ hP hD hS (lv_sub hl [0, 1, 2, 3, 4, 5, 6, 7, 8] rfl)
    · skip
      exact absurd c_2 (by decide)
