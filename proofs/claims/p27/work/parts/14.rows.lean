set_option maxHeartbeats 4000000 in
set_option maxRecDepth 100000 in
theorem c_X4_sum (l : Launch) (G : va_G) (ca : Nat → ClassId) (Wd : va_W) (q o n : Nat) (f : Nat → Int32) (hq : Wd[q]? = some (o, .inl (ca 0, n, .inl f))) (hn : n < 2 ^ 31) : CtI l yX4_sum wsX4_sum ({ frames := 0, cells := 0, slots := 0, locals := 0 }) [.ref o] G ca Wd Wd (smD f n) := by
  refine CtI.ofW (cc := cX4_sum) (maxL := 6) (rt := .int) (by decide) rfl (Nat.le_of_ble_eq_true rfl) rfl ?_
  intro pr en s m be me c A ls Q H hx hb hml hts hown hev hP hD hA hS hl hret
  have hown : s.vm.findClass RX4 = some m.cls := hown
  have hl : lv_has ls 6 [(0, .ref o)] := hl
  refine lv_iconst (v := 0) hx hb dX4_sum_0 (by decide) ?_
  refine lv_istore_n (lv' := [(1, .int 0), (0, .ref o)]) hx hb dX4_sum_1 rfl hl (by decide) rfl (fun ls hl => ?_)
  refine lv_aload_n hx hb dX4_sum_2 rfl (lv_at hl 1 rfl) ?_
  refine lv_astore_n (lv' := [(2, .ref o), (1, .int 0), (0, .ref o)]) hx hb dX4_sum_3 rfl hl (by decide) rfl (fun ls hl => ?_)
  refine lv_aload_n hx hb dX4_sum_4 rfl (lv_at hl 0 rfl) ?_
  refine va_alen hx hb hev.1 hP q 0 hq rfl (v := nI n) rfl dX4_sum_5 ?_
  refine lv_istore_n (lv' := [(3, .int (nI n)), (2, .ref o), (1, .int 0), (0, .ref o)]) hx hb dX4_sum_6 rfl hl (by decide) rfl (fun ls hl => ?_)
  refine lv_iconst (v := nI 0) hx hb dX4_sum_7 (by decide) ?_
  refine lv_istore (lv' := [(4, .int (nI 0)), (3, .int (nI n)), (2, .ref o), (1, .int 0), (0, .ref o)]) hx hb dX4_sum_8 hl (by decide) rfl (fun ls hl => ?_)
  have loop_10 : ∀ (k i : Nat), i + k = n → ∀ (H : Heap) (locs : List Loc) (ls : Array Slot), va_P G vwCl Wd H → va_D A Wd → va_S A s.heap H locs → lv_has ls 6 [(1, .int (smD f i)), (2, .ref o), (3, .int (nI n)), (4, .int (nI i))] → W pr l en ({ frames := 0, cells := 0, slots := 0, locals := 0 } : Room) s m ([.ref o] : List Value).toArray be me c H locs 0 0 Q (F0 m 10 ls []) := by
    intro k
    induction k with
    | zero =>
      intro i hi H locs ls hP hD hS hl
      obtain rfl : n = i := by omega
      refine lv_iload hx hb dX4_sum_10 (lv_at hl 3 rfl) ?_
      refine lv_iload_n hx hb dX4_sum_12 rfl (lv_at hl 2 rfl) ?_
      refine lv_icmp_ge (tgt := 33) hx hb dX4_sum_13 (by decide) (fun c_1 => ?_) (fun c_1 => ?_)
      · skip
        refine lv_iload_n hx hb dX4_sum_33 rfl (lv_at hl 0 rfl) ?_
        exact hret _ _ _ _ hP hS dX4_sum_34
      · skip
        exact absurd (nI_le (by omega) (by omega)) c_1
    | succ k ih =>
      intro i hi H locs ls hP hD hS hl
      have hlt : i < n := by omega
      refine lv_iload hx hb dX4_sum_10 (lv_at hl 3 rfl) ?_
      refine lv_iload_n hx hb dX4_sum_12 rfl (lv_at hl 2 rfl) ?_
      refine lv_icmp_ge (tgt := 33) hx hb dX4_sum_13 (by decide) (fun c_2 => ?_) (fun c_2 => ?_)
      · skip
        exact absurd c_2 (nI_ge (by omega) (by omega))
      · skip
        refine lv_aload_n hx hb dX4_sum_16 rfl (lv_at hl 1 rfl) ?_
        refine lv_iload hx hb dX4_sum_17 (lv_at hl 3 rfl) ?_
        refine b_iald hx hb hev.1 hP q hq rfl (j := i) (by omega) (by omega) dX4_sum_19 ?_
        refine lv_istore (lv' := [(5, .int (f i)), (1, .int (smD f i)), (2, .ref o), (3, .int (nI n)), (4, .int (nI i))]) hx hb dX4_sum_20 hl (by decide) rfl (fun ls hl => ?_)
        refine lv_iload_n hx hb dX4_sum_22 rfl (lv_at hl 1 rfl) ?_
        refine lv_iload hx hb dX4_sum_23 (lv_at hl 0 rfl) ?_
        refine lv_iadd hx hb dX4_sum_25 ?_
        refine lv_istore_n (lv' := [(1, .int ((smD f i) + (f i))), (5, .int (f i)), (2, .ref o), (3, .int (nI n)), (4, .int (nI i))]) hx hb dX4_sum_26 rfl hl (by decide) rfl (fun ls hl => ?_)
        refine lv_iinc (v := nI (i + 1)) (lv' := [(4, .int (nI (i + 1))), (1, .int ((smD f i) + (f i))), (5, .int (f i)), (2, .ref o), (3, .int (nI n))]) hx hb dX4_sum_27 hl (k := 4) rfl (nI_1 _) (by decide) rfl (fun ls hl => ?_)
        refine lv_goto (tgt := 10) hx hb dX4_sum_30 (by decide) ?_
        exact ih (i + 1) (by omega) _ _ _ hP (D_of hD rfl) hS (lv_sub hl [1, 3, 4, 0] rfl)
  exact loop_10 n 0 (by omega) _ _ _ hP (D_of hD rfl) hS (lv_sub hl [3, 2, 1, 0] rfl)
def cpN (f g : Nat → Int32) (i : Nat) : Nat → Int32 := fun j => if j < i then f j else g j
theorem cpN_0 (f g : Nat → Int32) : cpN f g 0 = g := by funext j; simp [cpN]
theorem cpN_s (f g : Nat → Int32) (i : Nat) : upd (cpN f g i) i (f i) = cpN f g (i + 1) := by
  funext j
  unfold upd cpN
  by_cases h : j = i
  · subst h; rw [if_pos rfl, if_pos (Nat.lt_succ_self _)]
  · rw [if_neg h]
    by_cases h2 : j < i
    · rw [if_pos h2, if_pos (by omega)]
    · rw [if_neg h2, if_neg (by omega)]
theorem cpN_in (f g : Nat → Int32) {n j : Nat} (h : j < n) : cpN f g n j = f j := if_pos h
theorem set_same {α : Type} {l : List α} {k : Nat} {x : α} (h : l[k]? = some x) : l.set k x = l := by
  have hl := (List.getElem?_eq_some_iff.mp h).1
  apply List.ext_getElem?
  intro i
  by_cases hi : i = k
  · subst hi; rw [List.getElem?_set_self hl, h]
  · rw [List.getElem?_set_ne (Ne.symm hi)]
theorem P_cong {G : va_G} {cl : List vw_C} {Wd : va_W} {H : Heap} {q o n : Nat} {cA : ClassId} {f g : Nat → Int32} (hP : va_P G cl (Wd.set q (o, .inl (cA, n, .inl g))) H) (h : ∀ j, j < n → g j = f j) : va_P G cl (Wd.set q (o, .inl (cA, n, .inl f))) H := by
  intro k x hk
  by_cases hkq : k = q
  · subst hkq
    have hl : k < Wd.length := by
      have := (List.getElem?_eq_some_iff.mp hk).1
      rw [List.length_set] at this; exact this
    rw [List.getElem?_set_self hl] at hk
    cases hk
    have h1 := hP k _ (List.getElem?_set_self hl)
    show H[o]? = some (vp_cell cA (n, .inl f))
    have h2 : vp_cell cA (n, .inl g) = vp_cell cA (n, .inl f) := by
      rw [vp_cell_i, vp_cell_i]
      unfold arrV
      congr 1
      apply congrArg
      funext j
      show Value.int (g j.val) = Value.int (f j.val)
      rw [h j.val j.isLt]
    rw [← h2]; exact h1
  · exact hP k x (by rw [List.getElem?_set_ne (Ne.symm hkq)] at hk ⊢; exact hk)
set_option maxHeartbeats 4000000 in
set_option maxRecDepth 100000 in
theorem c_X4_copy (l : Launch) (G : va_G) (ca : Nat → ClassId) (Wd : va_W) (q1 q2 o1 o2 n : Nat) (f g : Nat → Int32) (h1 : Wd[q1]? = some (o1, .inl (ca 0, n, .inl f))) (h2 : Wd[q2]? = some (o2, .inl (ca 0, n, .inl g))) (hne : q1 ≠ q2) (hn : n < 2 ^ 31) : CtV l yX4_copy wsX4_copy ({ frames := 0, cells := 0, slots := 0, locals := 0 }) [.ref o1, .ref o2] G ca Wd (Wd.set q2 (o2, .inl (ca 0, n, .inl f))) := by
  refine CtV.ofW (cc := cX4_copy) (maxL := 3) (by decide) rfl (Nat.le_of_ble_eq_true rfl) ?_
  intro pr en s m be me c A ls Q H hx hb hml hts hown hev hP hD hA hS hl hret
  have hown : s.vm.findClass RX4 = some m.cls := hown
  have hl : lv_has ls 3 [(0, .ref o1), (1, .ref o2)] := hl
  have hP : va_P G vwCl (Wd.set q2 (o2, .inl (ca 0, n, .inl (cpN f g 0)))) H := by rw [cpN_0, set_same h2]; exact hP
  have hD : va_D A (Wd.set q2 (o2, .inl (ca 0, n, .inl (cpN f g 0)))) := by rw [cpN_0, set_same h2]; exact hD
  refine lv_iconst (v := nI 0) hx hb dX4_copy_0 (by decide) ?_
  refine lv_istore_n (lv' := [(2, .int (nI 0)), (0, .ref o1), (1, .ref o2)]) hx hb dX4_copy_1 rfl hl (by decide) rfl (fun ls hl => ?_)
  have loop_2 : ∀ (k i : Nat), i + k = n → ∀ (H : Heap) (locs : List Loc) (ls : Array Slot), va_P G vwCl (Wd.set q2 (o2, .inl (ca 0, n, .inl (cpN f g i)))) H → va_D A (Wd.set q2 (o2, .inl (ca 0, n, .inl (cpN f g i)))) → va_S A s.heap H locs → lv_has ls 3 [(0, .ref o1), (1, .ref o2), (2, .int (nI i))] → W pr l en ({ frames := 0, cells := 0, slots := 0, locals := 0 } : Room) s m ([.ref o1, .ref o2] : List Value).toArray be me c H locs 0 0 Q (F0 m 2 ls []) := by
    intro k
    induction k with
    | zero =>
      intro i hi H locs ls hP hD hS hl
      obtain rfl : n = i := by omega
      have hl2 := (List.getElem?_eq_some_iff.mp h2).1
      have k1 : (Wd.set q2 (o2, .inl (ca 0, n, .inl (cpN f g n))))[q1]? = some (o1, .inl (ca 0, n, .inl f)) := by rw [List.getElem?_set_ne (Ne.symm hne)]; exact h1
      have k2 : (Wd.set q2 (o2, .inl (ca 0, n, .inl (cpN f g n))))[q2]? = some (o2, .inl (ca 0, n, .inl (cpN f g n))) := List.getElem?_set_self hl2
      refine lv_iload_n hx hb dX4_copy_2 rfl (lv_at hl 2 rfl) ?_
      refine lv_aload_n hx hb dX4_copy_3 rfl (lv_at hl 0 rfl) ?_
      refine va_alen hx hb hev.1 hP q1 0 k1 rfl (v := nI n) rfl dX4_copy_4 ?_
      refine lv_icmp_ge (tgt := 26) hx hb dX4_copy_5 (by decide) (fun c_1 => ?_) (fun c_1 => ?_)
      · skip
        exact hret _ _ _ _ (P_cong hP (fun j hj => cpN_in f g hj)) hS dX4_copy_26
      · skip
        exact absurd (nI_le (by omega) (by omega)) c_1
    | succ k ih =>
      intro i hi H locs ls hP hD hS hl
      have hlt : i < n := by omega
      have hl2 := (List.getElem?_eq_some_iff.mp h2).1
      have k1 : (Wd.set q2 (o2, .inl (ca 0, n, .inl (cpN f g i))))[q1]? = some (o1, .inl (ca 0, n, .inl f)) := by rw [List.getElem?_set_ne (Ne.symm hne)]; exact h1
      have k2 : (Wd.set q2 (o2, .inl (ca 0, n, .inl (cpN f g i))))[q2]? = some (o2, .inl (ca 0, n, .inl (cpN f g i))) := List.getElem?_set_self hl2
      refine lv_iload_n hx hb dX4_copy_2 rfl (lv_at hl 2 rfl) ?_
      refine lv_aload_n hx hb dX4_copy_3 rfl (lv_at hl 0 rfl) ?_
      refine va_alen hx hb hev.1 hP q1 0 k1 rfl (v := nI n) rfl dX4_copy_4 ?_
      refine lv_icmp_ge (tgt := 26) hx hb dX4_copy_5 (by decide) (fun c_2 => ?_) (fun c_2 => ?_)
      · skip
        exact absurd c_2 (nI_ge (by omega) (by omega))
      · skip
        refine lv_iload_n hx hb dX4_copy_8 rfl (lv_at hl 2 rfl) ?_
        refine lv_aload_n hx hb dX4_copy_9 rfl (lv_at hl 1 rfl) ?_
        refine va_alen hx hb hev.1 hP q2 0 k2 rfl (v := nI n) rfl dX4_copy_10 ?_
        refine lv_icmp_ge (tgt := 26) hx hb dX4_copy_11 (by decide) (fun c_3 => ?_) (fun c_3 => ?_)
        · skip
          exact absurd c_3 (nI_ge (by omega) (by omega))
        · skip
          refine lv_aload_n hx hb dX4_copy_14 rfl (lv_at hl 1 rfl) ?_
          refine lv_iload_n hx hb dX4_copy_15 rfl (lv_at hl 2 rfl) ?_
          refine lv_aload_n hx hb dX4_copy_16 rfl (lv_at hl 0 rfl) ?_
          refine lv_iload_n hx hb dX4_copy_17 rfl (lv_at hl 2 rfl) ?_
          refine b_iald hx hb hev.1 hP q1 k1 rfl (j := i) (by omega) (by omega) dX4_copy_18 ?_
          refine b_iast hx hb hev.1 hP hD hS q2 k2 rfl (j := i) (by omega) (by omega) dX4_copy_19 (fun H locs hP hD hS => ?_)
          rw [List.set_set, cpN_s] at hP hD
          refine lv_iinc (v := nI (i + 1)) (lv' := [(2, .int (nI (i + 1))), (0, .ref o1), (1, .ref o2)]) hx hb dX4_copy_20 hl (k := 2) rfl (nI_1 _) (by decide) rfl (fun ls hl => ?_)
          refine lv_goto (tgt := 2) hx hb dX4_copy_23 (by decide) ?_
          exact ih (i + 1) (by omega) _ _ _ hP (D_of hD rfl) hS (lv_sub hl [1, 2, 0] rfl)
  exact loop_2 n 0 (by omega) _ _ _ hP (D_of hD rfl) hS (lv_sub hl [1, 2, 0] rfl)
set_option maxHeartbeats 4000000 in
set_option maxRecDepth 100000 in
theorem c_X3_copyFrom (l : Launch) (G : va_G) (ca : Nat → ClassId) (h : Nat) (a : Nat → Nat) (S : SS) (h2 : Nat) (b : Nat → Nat) (T : SS) : CtV l yX3_copyFrom wsX3_copyFrom ({ frames := 1, cells := 0, slots := 0, locals := 22 }) [.ref h, .ref h2] G ca ((stT ca h a S) ++ (stT ca h2 b T)) ((stT ca h a T) ++ (stT ca h2 b T)) := by
  refine CtV.ofW (cc := cX3_copyFrom) (maxL := 2) (by decide) rfl (Nat.le_of_ble_eq_true rfl) ?_
  intro pr en s m be me c A ls Q H hx hb hml hts hown hev hP hD hA hS hl hret
  have hown : s.vm.findClass RX3 = some m.cls := hown
  have hl : lv_has ls 2 [(0, .ref h), (1, .ref h2)] := hl
  have in_wsX30 : ∀ w ∈ wsX30, w ∈ wsX3_copyFrom := fun _ h => List.mem_cons_of_mem _ (List.mem_append_right _ h)
  refine lv_aload_n hx hb dX3_copyFrom_0 rfl (lv_at hl 1 rfl) ?_
  refine va_get (D := G) (ci := 3) (v := .ref (b 0)) (C := RX3) (T := TX3) (N := 15) hx hb hts in_wsX30 hown hev.1 hP 10 rfl rfl 0 (by decide) (hts (.fieldLink RX3 9 "PuddleMinistries$Street" "settings" "[I") (List.mem_of_getElem? (i := 1) rfl)) (fun _ h9 => h9) rfl dX3_copyFrom_1 ?_
  refine lv_aload_n hx hb dX3_copyFrom_4 rfl (lv_at hl 0 rfl) ?_
  refine va_get (D := G) (ci := 3) (v := .ref (a 0)) (C := RX3) (T := TX3) (N := 15) hx hb hts in_wsX30 hown hev.1 hP 0 rfl rfl 0 (by decide) (hts (.fieldLink RX3 9 "PuddleMinistries$Street" "settings" "[I") (List.mem_of_getElem? (i := 1) rfl)) (fun _ h9 => h9) rfl dX3_copyFrom_5 ?_
  refine goVw (va_runSN (As := [.ref (b 0), .ref (a 0)]) (rest := []) ⟨hx, hb, hml, hown, hts⟩ (CtV.use (c_X4_copy l G ca ((stT ca h a S) ++ (stT ca h2 b T)) 11 1 (b 0) (a 0) 4 (s_se T) (s_se S) rfl rfl (by decide) (by decide)) H.size) ⟨va_cnB 2 hts gX3_copyFrom_X4_copy_n42 rfl rfl rfl hev.2.2.1 (hts (.initialized RX4) (List.mem_of_getElem? (i := 17) rfl)) (by decide +kernel) ⟨Nat.le_of_ble_eq_true rfl, Nat.le_of_ble_eq_true rfl⟩, hts (.static yX4_copy) (List.mem_of_getElem? (i := 16) rfl), trivial⟩ (pcW_S hev hP hD) rfl rfl hl.1 rfl (lv_room (Nat.le_of_ble_eq_true rfl)) dX3_copyFrom_8 ⟨Nat.zero_le _, Nat.zero_le _⟩) hD hS hA rfl (fun H locs hP hD hS => ?_)
  have hP : va_P G vwCl ((stT ca h a (s_se T, s_br S, s_wa S, s_cr S, s_sh S, s_ow S, s_pa S, s_cb S, s_pd S, s_fz S, s_dk S, s_dy S, s_fe S, s_dr S, s_dn S)) ++ (stT ca h2 b T)) H := hP
  have hD : va_D A ((stT ca h a (s_se T, s_br S, s_wa S, s_cr S, s_sh S, s_ow S, s_pa S, s_cb S, s_pd S, s_fz S, s_dk S, s_dy S, s_fe S, s_dr S, s_dn S)) ++ (stT ca h2 b T)) := hD
  refine lv_aload_n hx hb dX3_copyFrom_11 rfl (lv_at hl 1 rfl) ?_
  refine va_get (D := G) (ci := 3) (v := .ref (b 1)) (C := RX3) (T := TX3) (N := 15) hx hb hts in_wsX30 hown hev.1 hP 10 rfl rfl 1 (by decide) (hts (.fieldLink RX3 15 "PuddleMinistries$Street" "brims" "[I") (List.mem_of_getElem? (i := 2) rfl)) (fun _ h9 => h9) rfl dX3_copyFrom_12 ?_
  refine lv_aload_n hx hb dX3_copyFrom_15 rfl (lv_at hl 0 rfl) ?_
  refine va_get (D := G) (ci := 3) (v := .ref (a 1)) (C := RX3) (T := TX3) (N := 15) hx hb hts in_wsX30 hown hev.1 hP 0 rfl rfl 1 (by decide) (hts (.fieldLink RX3 15 "PuddleMinistries$Street" "brims" "[I") (List.mem_of_getElem? (i := 2) rfl)) (fun _ h9 => h9) rfl dX3_copyFrom_16 ?_
  refine goVw (va_runSN (As := [.ref (b 1), .ref (a 1)]) (rest := []) ⟨hx, hb, hml, hown, hts⟩ (CtV.use (c_X4_copy l G ca ((stT ca h a (s_se T, s_br S, s_wa S, s_cr S, s_sh S, s_ow S, s_pa S, s_cb S, s_pd S, s_fz S, s_dk S, s_dy S, s_fe S, s_dr S, s_dn S)) ++ (stT ca h2 b T)) 12 2 (b 1) (a 1) 12 (s_br T) (s_br S) rfl rfl (by decide) (by decide)) H.size) ⟨va_cnB 2 hts gX3_copyFrom_X4_copy_n42 rfl rfl rfl hev.2.2.1 (hts (.initialized RX4) (List.mem_of_getElem? (i := 17) rfl)) (by decide +kernel) ⟨Nat.le_of_ble_eq_true rfl, Nat.le_of_ble_eq_true rfl⟩, hts (.static yX4_copy) (List.mem_of_getElem? (i := 16) rfl), trivial⟩ (pcW_S hev hP hD) rfl rfl hl.1 rfl (lv_room (Nat.le_of_ble_eq_true rfl)) dX3_copyFrom_19 ⟨Nat.zero_le _, Nat.zero_le _⟩) hD hS hA rfl (fun H locs hP hD hS => ?_)
  have hP : va_P G vwCl ((stT ca h a (s_se T, s_br T, s_wa S, s_cr S, s_sh S, s_ow S, s_pa S, s_cb S, s_pd S, s_fz S, s_dk S, s_dy S, s_fe S, s_dr S, s_dn S)) ++ (stT ca h2 b T)) H := hP
  have hD : va_D A ((stT ca h a (s_se T, s_br T, s_wa S, s_cr S, s_sh S, s_ow S, s_pa S, s_cb S, s_pd S, s_fz S, s_dk S, s_dy S, s_fe S, s_dr S, s_dn S)) ++ (stT ca h2 b T)) := hD
  refine lv_aload_n hx hb dX3_copyFrom_22 rfl (lv_at hl 1 rfl) ?_
  refine va_get (D := G) (ci := 3) (v := .ref (b 2)) (C := RX3) (T := TX3) (N := 15) hx hb hts in_wsX30 hown hev.1 hP 10 rfl rfl 2 (by decide) (hts (.fieldLink RX3 18 "PuddleMinistries$Street" "waters" "[I") (List.mem_of_getElem? (i := 3) rfl)) (fun _ h9 => h9) rfl dX3_copyFrom_23 ?_
  refine lv_aload_n hx hb dX3_copyFrom_26 rfl (lv_at hl 0 rfl) ?_
  refine va_get (D := G) (ci := 3) (v := .ref (a 2)) (C := RX3) (T := TX3) (N := 15) hx hb hts in_wsX30 hown hev.1 hP 0 rfl rfl 2 (by decide) (hts (.fieldLink RX3 18 "PuddleMinistries$Street" "waters" "[I") (List.mem_of_getElem? (i := 3) rfl)) (fun _ h9 => h9) rfl dX3_copyFrom_27 ?_
  refine goVw (va_runSN (As := [.ref (b 2), .ref (a 2)]) (rest := []) ⟨hx, hb, hml, hown, hts⟩ (CtV.use (c_X4_copy l G ca ((stT ca h a (s_se T, s_br T, s_wa S, s_cr S, s_sh S, s_ow S, s_pa S, s_cb S, s_pd S, s_fz S, s_dk S, s_dy S, s_fe S, s_dr S, s_dn S)) ++ (stT ca h2 b T)) 13 3 (b 2) (a 2) 12 (s_wa T) (s_wa S) rfl rfl (by decide) (by decide)) H.size) ⟨va_cnB 2 hts gX3_copyFrom_X4_copy_n42 rfl rfl rfl hev.2.2.1 (hts (.initialized RX4) (List.mem_of_getElem? (i := 17) rfl)) (by decide +kernel) ⟨Nat.le_of_ble_eq_true rfl, Nat.le_of_ble_eq_true rfl⟩, hts (.static yX4_copy) (List.mem_of_getElem? (i := 16) rfl), trivial⟩ (pcW_S hev hP hD) rfl rfl hl.1 rfl (lv_room (Nat.le_of_ble_eq_true rfl)) dX3_copyFrom_30 ⟨Nat.zero_le _, Nat.zero_le _⟩) hD hS hA rfl (fun H locs hP hD hS => ?_)
  have hP : va_P G vwCl ((stT ca h a (s_se T, s_br T, s_wa T, s_cr S, s_sh S, s_ow S, s_pa S, s_cb S, s_pd S, s_fz S, s_dk S, s_dy S, s_fe S, s_dr S, s_dn S)) ++ (stT ca h2 b T)) H := hP
  have hD : va_D A ((stT ca h a (s_se T, s_br T, s_wa T, s_cr S, s_sh S, s_ow S, s_pa S, s_cb S, s_pd S, s_fz S, s_dk S, s_dy S, s_fe S, s_dr S, s_dn S)) ++ (stT ca h2 b T)) := hD
  refine lv_aload_n hx hb dX3_copyFrom_33 rfl (lv_at hl 1 rfl) ?_
  refine va_get (D := G) (ci := 3) (v := .ref (b 3)) (C := RX3) (T := TX3) (N := 15) hx hb hts in_wsX30 hown hev.1 hP 10 rfl rfl 3 (by decide) (hts (.fieldLink RX3 21 "PuddleMinistries$Street" "crossingsOf" "[I") (List.mem_of_getElem? (i := 4) rfl)) (fun _ h9 => h9) rfl dX3_copyFrom_34 ?_
  refine lv_aload_n hx hb dX3_copyFrom_37 rfl (lv_at hl 0 rfl) ?_
  refine va_get (D := G) (ci := 3) (v := .ref (a 3)) (C := RX3) (T := TX3) (N := 15) hx hb hts in_wsX30 hown hev.1 hP 0 rfl rfl 3 (by decide) (hts (.fieldLink RX3 21 "PuddleMinistries$Street" "crossingsOf" "[I") (List.mem_of_getElem? (i := 4) rfl)) (fun _ h9 => h9) rfl dX3_copyFrom_38 ?_
  refine goVw (va_runSN (As := [.ref (b 3), .ref (a 3)]) (rest := []) ⟨hx, hb, hml, hown, hts⟩ (CtV.use (c_X4_copy l G ca ((stT ca h a (s_se T, s_br T, s_wa T, s_cr S, s_sh S, s_ow S, s_pa S, s_cb S, s_pd S, s_fz S, s_dk S, s_dy S, s_fe S, s_dr S, s_dn S)) ++ (stT ca h2 b T)) 14 4 (b 3) (a 3) 12 (s_cr T) (s_cr S) rfl rfl (by decide) (by decide)) H.size) ⟨va_cnB 2 hts gX3_copyFrom_X4_copy_n42 rfl rfl rfl hev.2.2.1 (hts (.initialized RX4) (List.mem_of_getElem? (i := 17) rfl)) (by decide +kernel) ⟨Nat.le_of_ble_eq_true rfl, Nat.le_of_ble_eq_true rfl⟩, hts (.static yX4_copy) (List.mem_of_getElem? (i := 16) rfl), trivial⟩ (pcW_S hev hP hD) rfl rfl hl.1 rfl (lv_room (Nat.le_of_ble_eq_true rfl)) dX3_copyFrom_41 ⟨Nat.zero_le _, Nat.zero_le _⟩) hD hS hA rfl (fun H locs hP hD hS => ?_)
  have hP : va_P G vwCl ((stT ca h a (s_se T, s_br T, s_wa T, s_cr T, s_sh S, s_ow S, s_pa S, s_cb S, s_pd S, s_fz S, s_dk S, s_dy S, s_fe S, s_dr S, s_dn S)) ++ (stT ca h2 b T)) H := hP
  have hD : va_D A ((stT ca h a (s_se T, s_br T, s_wa T, s_cr T, s_sh S, s_ow S, s_pa S, s_cb S, s_pd S, s_fz S, s_dk S, s_dy S, s_fe S, s_dr S, s_dn S)) ++ (stT ca h2 b T)) := hD
  refine lv_aload_n hx hb dX3_copyFrom_44 rfl (lv_at hl 1 rfl) ?_
  refine va_get (D := G) (ci := 3) (v := .ref (b 4)) (C := RX3) (T := TX3) (N := 15) hx hb hts in_wsX30 hown hev.1 hP 10 rfl rfl 4 (by decide) (hts (.fieldLink RX3 24 "PuddleMinistries$Street" "shoesOf" "[I") (List.mem_of_getElem? (i := 5) rfl)) (fun _ h9 => h9) rfl dX3_copyFrom_45 ?_
  refine lv_aload_n hx hb dX3_copyFrom_48 rfl (lv_at hl 0 rfl) ?_
  refine va_get (D := G) (ci := 3) (v := .ref (a 4)) (C := RX3) (T := TX3) (N := 15) hx hb hts in_wsX30 hown hev.1 hP 0 rfl rfl 4 (by decide) (hts (.fieldLink RX3 24 "PuddleMinistries$Street" "shoesOf" "[I") (List.mem_of_getElem? (i := 5) rfl)) (fun _ h9 => h9) rfl dX3_copyFrom_49 ?_
  refine goVw (va_runSN (As := [.ref (b 4), .ref (a 4)]) (rest := []) ⟨hx, hb, hml, hown, hts⟩ (CtV.use (c_X4_copy l G ca ((stT ca h a (s_se T, s_br T, s_wa T, s_cr T, s_sh S, s_ow S, s_pa S, s_cb S, s_pd S, s_fz S, s_dk S, s_dy S, s_fe S, s_dr S, s_dn S)) ++ (stT ca h2 b T)) 15 5 (b 4) (a 4) 6 (s_sh T) (s_sh S) rfl rfl (by decide) (by decide)) H.size) ⟨va_cnB 2 hts gX3_copyFrom_X4_copy_n42 rfl rfl rfl hev.2.2.1 (hts (.initialized RX4) (List.mem_of_getElem? (i := 17) rfl)) (by decide +kernel) ⟨Nat.le_of_ble_eq_true rfl, Nat.le_of_ble_eq_true rfl⟩, hts (.static yX4_copy) (List.mem_of_getElem? (i := 16) rfl), trivial⟩ (pcW_S hev hP hD) rfl rfl hl.1 rfl (lv_room (Nat.le_of_ble_eq_true rfl)) dX3_copyFrom_52 ⟨Nat.zero_le _, Nat.zero_le _⟩) hD hS hA rfl (fun H locs hP hD hS => ?_)
  have hP : va_P G vwCl ((stT ca h a (s_se T, s_br T, s_wa T, s_cr T, s_sh T, s_ow S, s_pa S, s_cb S, s_pd S, s_fz S, s_dk S, s_dy S, s_fe S, s_dr S, s_dn S)) ++ (stT ca h2 b T)) H := hP
  have hD : va_D A ((stT ca h a (s_se T, s_br T, s_wa T, s_cr T, s_sh T, s_ow S, s_pa S, s_cb S, s_pd S, s_fz S, s_dk S, s_dy S, s_fe S, s_dr S, s_dn S)) ++ (stT ca h2 b T)) := hD
  refine lv_aload_n hx hb dX3_copyFrom_55 rfl (lv_at hl 1 rfl) ?_
  refine va_get (D := G) (ci := 3) (v := .ref (b 5)) (C := RX3) (T := TX3) (N := 15) hx hb hts in_wsX30 hown hev.1 hP 10 rfl rfl 5 (by decide) (hts (.fieldLink RX3 27 "PuddleMinistries$Street" "owedBy" "[I") (List.mem_of_getElem? (i := 6) rfl)) (fun _ h9 => h9) rfl dX3_copyFrom_56 ?_
  refine lv_aload_n hx hb dX3_copyFrom_59 rfl (lv_at hl 0 rfl) ?_
  refine va_get (D := G) (ci := 3) (v := .ref (a 5)) (C := RX3) (T := TX3) (N := 15) hx hb hts in_wsX30 hown hev.1 hP 0 rfl rfl 5 (by decide) (hts (.fieldLink RX3 27 "PuddleMinistries$Street" "owedBy" "[I") (List.mem_of_getElem? (i := 6) rfl)) (fun _ h9 => h9) rfl dX3_copyFrom_60 ?_
  refine goVw (va_runSN (As := [.ref (b 5), .ref (a 5)]) (rest := []) ⟨hx, hb, hml, hown, hts⟩ (CtV.use (c_X4_copy l G ca ((stT ca h a (s_se T, s_br T, s_wa T, s_cr T, s_sh T, s_ow S, s_pa S, s_cb S, s_pd S, s_fz S, s_dk S, s_dy S, s_fe S, s_dr S, s_dn S)) ++ (stT ca h2 b T)) 16 6 (b 5) (a 5) 6 (s_ow T) (s_ow S) rfl rfl (by decide) (by decide)) H.size) ⟨va_cnB 2 hts gX3_copyFrom_X4_copy_n42 rfl rfl rfl hev.2.2.1 (hts (.initialized RX4) (List.mem_of_getElem? (i := 17) rfl)) (by decide +kernel) ⟨Nat.le_of_ble_eq_true rfl, Nat.le_of_ble_eq_true rfl⟩, hts (.static yX4_copy) (List.mem_of_getElem? (i := 16) rfl), trivial⟩ (pcW_S hev hP hD) rfl rfl hl.1 rfl (lv_room (Nat.le_of_ble_eq_true rfl)) dX3_copyFrom_63 ⟨Nat.zero_le _, Nat.zero_le _⟩) hD hS hA rfl (fun H locs hP hD hS => ?_)
  have hP : va_P G vwCl ((stT ca h a (s_se T, s_br T, s_wa T, s_cr T, s_sh T, s_ow T, s_pa S, s_cb S, s_pd S, s_fz S, s_dk S, s_dy S, s_fe S, s_dr S, s_dn S)) ++ (stT ca h2 b T)) H := hP
  have hD : va_D A ((stT ca h a (s_se T, s_br T, s_wa T, s_cr T, s_sh T, s_ow T, s_pa S, s_cb S, s_pd S, s_fz S, s_dk S, s_dy S, s_fe S, s_dr S, s_dn S)) ++ (stT ca h2 b T)) := hD
  refine lv_aload_n hx hb dX3_copyFrom_66 rfl (lv_at hl 1 rfl) ?_
  refine va_get (D := G) (ci := 3) (v := .ref (b 6)) (C := RX3) (T := TX3) (N := 15) hx hb hts in_wsX30 hown hev.1 hP 10 rfl rfl 6 (by decide) (hts (.fieldLink RX3 30 "PuddleMinistries$Street" "paidBy" "[I") (List.mem_of_getElem? (i := 7) rfl)) (fun _ h9 => h9) rfl dX3_copyFrom_67 ?_
  refine lv_aload_n hx hb dX3_copyFrom_70 rfl (lv_at hl 0 rfl) ?_
  refine va_get (D := G) (ci := 3) (v := .ref (a 6)) (C := RX3) (T := TX3) (N := 15) hx hb hts in_wsX30 hown hev.1 hP 0 rfl rfl 6 (by decide) (hts (.fieldLink RX3 30 "PuddleMinistries$Street" "paidBy" "[I") (List.mem_of_getElem? (i := 7) rfl)) (fun _ h9 => h9) rfl dX3_copyFrom_71 ?_
  refine goVw (va_runSN (As := [.ref (b 6), .ref (a 6)]) (rest := []) ⟨hx, hb, hml, hown, hts⟩ (CtV.use (c_X4_copy l G ca ((stT ca h a (s_se T, s_br T, s_wa T, s_cr T, s_sh T, s_ow T, s_pa S, s_cb S, s_pd S, s_fz S, s_dk S, s_dy S, s_fe S, s_dr S, s_dn S)) ++ (stT ca h2 b T)) 17 7 (b 6) (a 6) 6 (s_pa T) (s_pa S) rfl rfl (by decide) (by decide)) H.size) ⟨va_cnB 2 hts gX3_copyFrom_X4_copy_n42 rfl rfl rfl hev.2.2.1 (hts (.initialized RX4) (List.mem_of_getElem? (i := 17) rfl)) (by decide +kernel) ⟨Nat.le_of_ble_eq_true rfl, Nat.le_of_ble_eq_true rfl⟩, hts (.static yX4_copy) (List.mem_of_getElem? (i := 16) rfl), trivial⟩ (pcW_S hev hP hD) rfl rfl hl.1 rfl (lv_room (Nat.le_of_ble_eq_true rfl)) dX3_copyFrom_74 ⟨Nat.zero_le _, Nat.zero_le _⟩) hD hS hA rfl (fun H locs hP hD hS => ?_)
  have hP : va_P G vwCl ((stT ca h a (s_se T, s_br T, s_wa T, s_cr T, s_sh T, s_ow T, s_pa T, s_cb S, s_pd S, s_fz S, s_dk S, s_dy S, s_fe S, s_dr S, s_dn S)) ++ (stT ca h2 b T)) H := hP
  have hD : va_D A ((stT ca h a (s_se T, s_br T, s_wa T, s_cr T, s_sh T, s_ow T, s_pa T, s_cb S, s_pd S, s_fz S, s_dk S, s_dy S, s_fe S, s_dr S, s_dn S)) ++ (stT ca h2 b T)) := hD
  refine lv_aload_n hx hb dX3_copyFrom_77 rfl (lv_at hl 1 rfl) ?_
  refine va_get (D := G) (ci := 3) (v := .ref (b 7)) (C := RX3) (T := TX3) (N := 15) hx hb hts in_wsX30 hown hev.1 hP 10 rfl rfl 7 (by decide) (hts (.fieldLink RX3 33 "PuddleMinistries$Street" "crossedBy" "[I") (List.mem_of_getElem? (i := 8) rfl)) (fun _ h9 => h9) rfl dX3_copyFrom_78 ?_
  refine lv_aload_n hx hb dX3_copyFrom_81 rfl (lv_at hl 0 rfl) ?_
  refine va_get (D := G) (ci := 3) (v := .ref (a 7)) (C := RX3) (T := TX3) (N := 15) hx hb hts in_wsX30 hown hev.1 hP 0 rfl rfl 7 (by decide) (hts (.fieldLink RX3 33 "PuddleMinistries$Street" "crossedBy" "[I") (List.mem_of_getElem? (i := 8) rfl)) (fun _ h9 => h9) rfl dX3_copyFrom_82 ?_
  refine goVw (va_runSN (As := [.ref (b 7), .ref (a 7)]) (rest := []) ⟨hx, hb, hml, hown, hts⟩ (CtV.use (c_X4_copy l G ca ((stT ca h a (s_se T, s_br T, s_wa T, s_cr T, s_sh T, s_ow T, s_pa T, s_cb S, s_pd S, s_fz S, s_dk S, s_dy S, s_fe S, s_dr S, s_dn S)) ++ (stT ca h2 b T)) 18 8 (b 7) (a 7) 6 (s_cb T) (s_cb S) rfl rfl (by decide) (by decide)) H.size) ⟨va_cnB 2 hts gX3_copyFrom_X4_copy_n42 rfl rfl rfl hev.2.2.1 (hts (.initialized RX4) (List.mem_of_getElem? (i := 17) rfl)) (by decide +kernel) ⟨Nat.le_of_ble_eq_true rfl, Nat.le_of_ble_eq_true rfl⟩, hts (.static yX4_copy) (List.mem_of_getElem? (i := 16) rfl), trivial⟩ (pcW_S hev hP hD) rfl rfl hl.1 rfl (lv_room (Nat.le_of_ble_eq_true rfl)) dX3_copyFrom_85 ⟨Nat.zero_le _, Nat.zero_le _⟩) hD hS hA rfl (fun H locs hP hD hS => ?_)
  have hP : va_P G vwCl ((stT ca h a (s_se T, s_br T, s_wa T, s_cr T, s_sh T, s_ow T, s_pa T, s_cb T, s_pd S, s_fz S, s_dk S, s_dy S, s_fe S, s_dr S, s_dn S)) ++ (stT ca h2 b T)) H := hP
  have hD : va_D A ((stT ca h a (s_se T, s_br T, s_wa T, s_cr T, s_sh T, s_ow T, s_pa T, s_cb T, s_pd S, s_fz S, s_dk S, s_dy S, s_fe S, s_dr S, s_dn S)) ++ (stT ca h2 b T)) := hD
  refine lv_aload_n hx hb dX3_copyFrom_88 rfl (lv_at hl 1 rfl) ?_
  refine va_get (D := G) (ci := 3) (v := .ref (b 8)) (C := RX3) (T := TX3) (N := 15) hx hb hts in_wsX30 hown hev.1 hP 10 rfl rfl 8 (by decide) (hts (.fieldLink RX3 36 "PuddleMinistries$Street" "permitDays" "[I") (List.mem_of_getElem? (i := 9) rfl)) (fun _ h9 => h9) rfl dX3_copyFrom_89 ?_
  refine lv_aload_n hx hb dX3_copyFrom_92 rfl (lv_at hl 0 rfl) ?_
  refine va_get (D := G) (ci := 3) (v := .ref (a 8)) (C := RX3) (T := TX3) (N := 15) hx hb hts in_wsX30 hown hev.1 hP 0 rfl rfl 8 (by decide) (hts (.fieldLink RX3 36 "PuddleMinistries$Street" "permitDays" "[I") (List.mem_of_getElem? (i := 9) rfl)) (fun _ h9 => h9) rfl dX3_copyFrom_93 ?_
  refine goVw (va_runSN (As := [.ref (b 8), .ref (a 8)]) (rest := []) ⟨hx, hb, hml, hown, hts⟩ (CtV.use (c_X4_copy l G ca ((stT ca h a (s_se T, s_br T, s_wa T, s_cr T, s_sh T, s_ow T, s_pa T, s_cb T, s_pd S, s_fz S, s_dk S, s_dy S, s_fe S, s_dr S, s_dn S)) ++ (stT ca h2 b T)) 19 9 (b 8) (a 8) 72 (s_pd T) (s_pd S) rfl rfl (by decide) (by decide)) H.size) ⟨va_cnB 2 hts gX3_copyFrom_X4_copy_n42 rfl rfl rfl hev.2.2.1 (hts (.initialized RX4) (List.mem_of_getElem? (i := 17) rfl)) (by decide +kernel) ⟨Nat.le_of_ble_eq_true rfl, Nat.le_of_ble_eq_true rfl⟩, hts (.static yX4_copy) (List.mem_of_getElem? (i := 16) rfl), trivial⟩ (pcW_S hev hP hD) rfl rfl hl.1 rfl (lv_room (Nat.le_of_ble_eq_true rfl)) dX3_copyFrom_96 ⟨Nat.zero_le _, Nat.zero_le _⟩) hD hS hA rfl (fun H locs hP hD hS => ?_)
  have hP : va_P G vwCl ((stT ca h a (s_se T, s_br T, s_wa T, s_cr T, s_sh T, s_ow T, s_pa T, s_cb T, s_pd T, s_fz S, s_dk S, s_dy S, s_fe S, s_dr S, s_dn S)) ++ (stT ca h2 b T)) H := hP
  have hD : va_D A ((stT ca h a (s_se T, s_br T, s_wa T, s_cr T, s_sh T, s_ow T, s_pa T, s_cb T, s_pd T, s_fz S, s_dk S, s_dy S, s_fe S, s_dr S, s_dn S)) ++ (stT ca h2 b T)) := hD
  refine lv_aload_n hx hb dX3_copyFrom_99 rfl (lv_at hl 0 rfl) ?_
  refine lv_aload_n hx hb dX3_copyFrom_100 rfl (lv_at hl 1 rfl) ?_
  refine va_get (D := G) (ci := 3) (v := .int (s_fz T)) (C := RX3) (T := TX3) (N := 15) hx hb hts in_wsX30 hown hev.1 hP 10 rfl rfl 9 (by decide) (hts (.fieldLink RX3 46 "PuddleMinistries$Street" "frozenSet" "I") (List.mem_of_getElem? (i := 10) rfl)) (fun _ h9 => h9) rfl dX3_copyFrom_101 ?_
  refine va_put (D := G) (ci := 3) (v := .int (s_fz T)) (ty := .int) (C := RX3) (T := TX3) (N := 15) hx hb hts in_wsX30 tyX3 tyX3_ok nmX3 hown hev.1 hP hD hS 0 rfl rfl 9 (by decide) (hts (.fieldLink RX3 46 "PuddleMinistries$Street" "frozenSet" "I") (List.mem_of_getElem? (i := 10) rfl)) (fun _ h9 => h9) rfl (by decide +kernel) rfl rfl (Nat.le_of_ble_eq_true rfl) dX3_copyFrom_104 (fun H locs hP hD hS => ?_)
  have hP : va_P G vwCl ((stT ca h a (s_se T, s_br T, s_wa T, s_cr T, s_sh T, s_ow T, s_pa T, s_cb T, s_pd T, s_fz T, s_dk S, s_dy S, s_fe S, s_dr S, s_dn S)) ++ (stT ca h2 b T)) H := hP
  have hD : va_D A ((stT ca h a (s_se T, s_br T, s_wa T, s_cr T, s_sh T, s_ow T, s_pa T, s_cb T, s_pd T, s_fz T, s_dk S, s_dy S, s_fe S, s_dr S, s_dn S)) ++ (stT ca h2 b T)) := hD
  refine lv_aload_n hx hb dX3_copyFrom_107 rfl (lv_at hl 0 rfl) ?_
  refine lv_aload_n hx hb dX3_copyFrom_108 rfl (lv_at hl 1 rfl) ?_
  refine va_get (D := G) (ci := 3) (v := .int (s_dk T)) (C := RX3) (T := TX3) (N := 15) hx hb hts in_wsX30 hown hev.1 hP 10 rfl rfl 10 (by decide) (hts (.fieldLink RX3 50 "PuddleMinistries$Street" "ducksSet" "I") (List.mem_of_getElem? (i := 11) rfl)) (fun _ h9 => h9) rfl dX3_copyFrom_109 ?_
  refine va_put (D := G) (ci := 3) (v := .int (s_dk T)) (ty := .int) (C := RX3) (T := TX3) (N := 15) hx hb hts in_wsX30 tyX3 tyX3_ok nmX3 hown hev.1 hP hD hS 0 rfl rfl 10 (by decide) (hts (.fieldLink RX3 50 "PuddleMinistries$Street" "ducksSet" "I") (List.mem_of_getElem? (i := 11) rfl)) (fun _ h9 => h9) rfl (by decide +kernel) rfl rfl (Nat.le_of_ble_eq_true rfl) dX3_copyFrom_112 (fun H locs hP hD hS => ?_)
  have hP : va_P G vwCl ((stT ca h a (s_se T, s_br T, s_wa T, s_cr T, s_sh T, s_ow T, s_pa T, s_cb T, s_pd T, s_fz T, s_dk T, s_dy S, s_fe S, s_dr S, s_dn S)) ++ (stT ca h2 b T)) H := hP
  have hD : va_D A ((stT ca h a (s_se T, s_br T, s_wa T, s_cr T, s_sh T, s_ow T, s_pa T, s_cb T, s_pd T, s_fz T, s_dk T, s_dy S, s_fe S, s_dr S, s_dn S)) ++ (stT ca h2 b T)) := hD
  refine lv_aload_n hx hb dX3_copyFrom_115 rfl (lv_at hl 0 rfl) ?_
  refine lv_aload_n hx hb dX3_copyFrom_116 rfl (lv_at hl 1 rfl) ?_
  refine va_get (D := G) (ci := 3) (v := .int (s_dy T)) (C := RX3) (T := TX3) (N := 15) hx hb hts in_wsX30 hown hev.1 hP 10 rfl rfl 11 (by decide) (hts (.fieldLink RX3 53 "PuddleMinistries$Street" "days" "I") (List.mem_of_getElem? (i := 12) rfl)) (fun _ h9 => h9) rfl dX3_copyFrom_117 ?_
  refine va_put (D := G) (ci := 3) (v := .int (s_dy T)) (ty := .int) (C := RX3) (T := TX3) (N := 15) hx hb hts in_wsX30 tyX3 tyX3_ok nmX3 hown hev.1 hP hD hS 0 rfl rfl 11 (by decide) (hts (.fieldLink RX3 53 "PuddleMinistries$Street" "days" "I") (List.mem_of_getElem? (i := 12) rfl)) (fun _ h9 => h9) rfl (by decide +kernel) rfl rfl (Nat.le_of_ble_eq_true rfl) dX3_copyFrom_120 (fun H locs hP hD hS => ?_)
  have hP : va_P G vwCl ((stT ca h a (s_se T, s_br T, s_wa T, s_cr T, s_sh T, s_ow T, s_pa T, s_cb T, s_pd T, s_fz T, s_dk T, s_dy T, s_fe S, s_dr S, s_dn S)) ++ (stT ca h2 b T)) H := hP
  have hD : va_D A ((stT ca h a (s_se T, s_br T, s_wa T, s_cr T, s_sh T, s_ow T, s_pa T, s_cb T, s_pd T, s_fz T, s_dk T, s_dy T, s_fe S, s_dr S, s_dn S)) ++ (stT ca h2 b T)) := hD
  refine lv_aload_n hx hb dX3_copyFrom_123 rfl (lv_at hl 0 rfl) ?_
  refine lv_aload_n hx hb dX3_copyFrom_124 rfl (lv_at hl 1 rfl) ?_
  refine va_get (D := G) (ci := 3) (v := .int (s_fe T)) (C := RX3) (T := TX3) (N := 15) hx hb hts in_wsX30 hown hev.1 hP 10 rfl rfl 12 (by decide) (hts (.fieldLink RX3 56 "PuddleMinistries$Street" "fell" "I") (List.mem_of_getElem? (i := 13) rfl)) (fun _ h9 => h9) rfl dX3_copyFrom_125 ?_
  refine va_put (D := G) (ci := 3) (v := .int (s_fe T)) (ty := .int) (C := RX3) (T := TX3) (N := 15) hx hb hts in_wsX30 tyX3 tyX3_ok nmX3 hown hev.1 hP hD hS 0 rfl rfl 12 (by decide) (hts (.fieldLink RX3 56 "PuddleMinistries$Street" "fell" "I") (List.mem_of_getElem? (i := 13) rfl)) (fun _ h9 => h9) rfl (by decide +kernel) rfl rfl (Nat.le_of_ble_eq_true rfl) dX3_copyFrom_128 (fun H locs hP hD hS => ?_)
  have hP : va_P G vwCl ((stT ca h a (s_se T, s_br T, s_wa T, s_cr T, s_sh T, s_ow T, s_pa T, s_cb T, s_pd T, s_fz T, s_dk T, s_dy T, s_fe T, s_dr S, s_dn S)) ++ (stT ca h2 b T)) H := hP
  have hD : va_D A ((stT ca h a (s_se T, s_br T, s_wa T, s_cr T, s_sh T, s_ow T, s_pa T, s_cb T, s_pd T, s_fz T, s_dk T, s_dy T, s_fe T, s_dr S, s_dn S)) ++ (stT ca h2 b T)) := hD
  refine lv_aload_n hx hb dX3_copyFrom_131 rfl (lv_at hl 0 rfl) ?_
  refine lv_aload_n hx hb dX3_copyFrom_132 rfl (lv_at hl 1 rfl) ?_
  refine va_get (D := G) (ci := 3) (v := .int (s_dr T)) (C := RX3) (T := TX3) (N := 15) hx hb hts in_wsX30 hown hev.1 hP 10 rfl rfl 13 (by decide) (hts (.fieldLink RX3 59 "PuddleMinistries$Street" "dried" "I") (List.mem_of_getElem? (i := 14) rfl)) (fun _ h9 => h9) rfl dX3_copyFrom_133 ?_
  refine va_put (D := G) (ci := 3) (v := .int (s_dr T)) (ty := .int) (C := RX3) (T := TX3) (N := 15) hx hb hts in_wsX30 tyX3 tyX3_ok nmX3 hown hev.1 hP hD hS 0 rfl rfl 13 (by decide) (hts (.fieldLink RX3 59 "PuddleMinistries$Street" "dried" "I") (List.mem_of_getElem? (i := 14) rfl)) (fun _ h9 => h9) rfl (by decide +kernel) rfl rfl (Nat.le_of_ble_eq_true rfl) dX3_copyFrom_136 (fun H locs hP hD hS => ?_)
  have hP : va_P G vwCl ((stT ca h a (s_se T, s_br T, s_wa T, s_cr T, s_sh T, s_ow T, s_pa T, s_cb T, s_pd T, s_fz T, s_dk T, s_dy T, s_fe T, s_dr T, s_dn S)) ++ (stT ca h2 b T)) H := hP
  have hD : va_D A ((stT ca h a (s_se T, s_br T, s_wa T, s_cr T, s_sh T, s_ow T, s_pa T, s_cb T, s_pd T, s_fz T, s_dk T, s_dy T, s_fe T, s_dr T, s_dn S)) ++ (stT ca h2 b T)) := hD
  refine lv_aload_n hx hb dX3_copyFrom_139 rfl (lv_at hl 0 rfl) ?_
  refine lv_aload_n hx hb dX3_copyFrom_140 rfl (lv_at hl 1 rfl) ?_
  refine va_get (D := G) (ci := 3) (v := .int (s_dn T)) (C := RX3) (T := TX3) (N := 15) hx hb hts in_wsX30 hown hev.1 hP 10 rfl rfl 14 (by decide) (hts (.fieldLink RX3 62 "PuddleMinistries$Street" "drained" "I") (List.mem_of_getElem? (i := 15) rfl)) (fun _ h9 => h9) rfl dX3_copyFrom_141 ?_
  refine va_put (D := G) (ci := 3) (v := .int (s_dn T)) (ty := .int) (C := RX3) (T := TX3) (N := 15) hx hb hts in_wsX30 tyX3 tyX3_ok nmX3 hown hev.1 hP hD hS 0 rfl rfl 14 (by decide) (hts (.fieldLink RX3 62 "PuddleMinistries$Street" "drained" "I") (List.mem_of_getElem? (i := 15) rfl)) (fun _ h9 => h9) rfl (by decide +kernel) rfl rfl (Nat.le_of_ble_eq_true rfl) dX3_copyFrom_144 (fun H locs hP hD hS => ?_)
  have hP : va_P G vwCl ((stT ca h a (s_se T, s_br T, s_wa T, s_cr T, s_sh T, s_ow T, s_pa T, s_cb T, s_pd T, s_fz T, s_dk T, s_dy T, s_fe T, s_dr T, s_dn T)) ++ (stT ca h2 b T)) H := hP
  have hD : va_D A ((stT ca h a (s_se T, s_br T, s_wa T, s_cr T, s_sh T, s_ow T, s_pa T, s_cb T, s_pd T, s_fz T, s_dk T, s_dy T, s_fe T, s_dr T, s_dn T)) ++ (stT ca h2 b T)) := hD
  exact hret _ _ _ _ hP hS dX3_copyFrom_147
