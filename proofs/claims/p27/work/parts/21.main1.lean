/-! the class PuddleMinistries: its methods over a world of object, pad, history (with the street that is recorded next), street, and the rest -/
abbrev slT (ca : Nat → ClassId) (h a u : Nat) (rf : Nat → Option Nat) (us : Nat → Int32) : va_W := [(h, .inr (2, [.ref a, .ref u])), (a, .inl (ca 3, 2, .inr (.inr (.inr (.inr rf))))), (u, .inl (ca 2, 2, .inl us))]
theorem slF {ca : Nat → ClassId} {h a u : Nat} {rf : Nat → Option Nat} {us us1 : Nat → Int32} : (slT ca h a u rf us).map Prod.fst = (slT ca h a u rf us1).map Prod.fst := rfl
def recN (n : Nat) : Nat := if n < 6 then n + 1 else 6
def recR (n : Nat) (rf : Nat → Option Nat) : Nat → Option Nat := if n < 6 then rf else rotR rf
def recT (n : Nat) (rf : Nat → Option Nat) : Option Nat := if n < 6 then rf n else rf 0
theorem c_X0_record (l : Launch) (G : va_G) (ca : Nat → ClassId) (hh ka n : Nat) (rf : Nat → Option Nat) (kj : Nat) (bj : Nat → Nat) (T : SS) (h : Nat) (a : Nat → Nat) (S : SS) (O : va_W) (hn6 : n ≤ 6) (hkj : recT n rf = some kj) (hob : ∀ i, i < 6 → ∃ (v x : Nat) (y : List Value), rf i = some v ∧ (hiT ca hh ka (nI n) rf ++ (stT ca kj bj T ++ (stT ca h a S ++ O)))[x]? = some (v, .inr (3, y))) : CtV l yX0_record wsX0_record ({ frames := 2, cells := 0, slots := 0, locals := 43 }) [.ref hh, .ref h] G ca (hiT ca hh ka (nI n) rf ++ (stT ca kj bj T ++ (stT ca h a S ++ O))) (hiT ca hh ka (nI (recN n)) (recR n rf) ++ (stT ca kj bj S ++ (stT ca h a S ++ O))) := by
  by_cases hn : n < 6
  · rw [recT, if_pos hn] at hkj
    rw [recN, recR, if_pos hn, if_pos hn]
    exact c_X0_record_lt l G ca hh ka n rf kj bj T h a S O hn hkj
  · obtain rfl : n = 6 := by omega
    rw [recT, if_neg hn] at hkj
    rw [recN, recR, if_neg hn, if_neg hn]
    exact c_X0_record_eq l G ca hh ka rf kj bj T h a S O hkj hob
theorem nI_out {x : Int32} {k : Nat} (h : x < 0 ∨ nI k ≤ x) (c : ¬ x < 0) : nI k ≤ x := h.resolve_left c
set_option maxHeartbeats 4000000 in
set_option maxRecDepth 100000 in
theorem c_X4_isPuddle_in (l : Launch) (G : va_G) (ca : Nat → ClassId) (p : Nat) (hp1 : p < 12) : CtI l yX4_isPuddle wsX4_isPuddle ({ frames := 0, cells := 0, slots := 0, locals := 0 }) [.int (nI p)] G ca ([]) ([]) 1 := by
  refine CtI.ofW (cc := cX4_isPuddle) (maxL := 1) (rt := .boolean) (by decide) rfl (Nat.le_of_ble_eq_true rfl) (by first | rfl | (split <;> rfl)) ?_
  intro pr en s m be me c A ls Q H hx hb hml hts hown hev hP hD hA hS hl hret
  have hown : s.vm.findClass RX4 = some m.cls := hown
  have hl : lv_has ls 1 [(0, .int (nI p))] := hl
  refine lv_iload_n hx hb dX4_isPuddle_0 rfl (lv_at hl 0 rfl) ?_
  refine lv_if_lt (tgt := 14) hx hb dX4_isPuddle_1 (by decide) (fun c_1 => ?_) (fun c_1 => ?_)
  · skip
    exact absurd c_1 (nI_pos (by omega))
  · skip
    refine lv_iload_n hx hb dX4_isPuddle_4 rfl (lv_at hl 0 rfl) ?_
    refine lv_bipush (v := nI 12) hx hb dX4_isPuddle_5 (by decide) ?_
    refine lv_icmp_ge (tgt := 14) hx hb dX4_isPuddle_7 (by decide) (fun c_2 => ?_) (fun c_2 => ?_)
    · skip
      exact absurd c_2 (nI_ge (by omega) (by omega))
    · skip
      refine lv_iconst (v := 1) hx hb dX4_isPuddle_10 (by decide) ?_
      refine lv_goto (tgt := 15) hx hb dX4_isPuddle_11 (by decide) ?_
      exact hret _ _ _ _ hP hS dX4_isPuddle_15
set_option maxHeartbeats 4000000 in
set_option maxRecDepth 100000 in
theorem c_X4_isPuddle_out (l : Launch) (G : va_G) (ca : Nat → ClassId) (x : Int32) (hx0 : x < 0 ∨ nI 12 ≤ x) : CtI l yX4_isPuddle wsX4_isPuddle ({ frames := 0, cells := 0, slots := 0, locals := 0 }) [.int x] G ca ([]) ([]) 0 := by
  refine CtI.ofW (cc := cX4_isPuddle) (maxL := 1) (rt := .boolean) (by decide) rfl (Nat.le_of_ble_eq_true rfl) (by first | rfl | (split <;> rfl)) ?_
  intro pr en s m be me c A ls Q H hx hb hml hts hown hev hP hD hA hS hl hret
  have hown : s.vm.findClass RX4 = some m.cls := hown
  have hl : lv_has ls 1 [(0, .int x)] := hl
  refine lv_iload_n hx hb dX4_isPuddle_0 rfl (lv_at hl 0 rfl) ?_
  refine lv_if_lt (tgt := 14) hx hb dX4_isPuddle_1 (by decide) (fun c_1 => ?_) (fun c_1 => ?_)
  · skip
    refine lv_iconst (v := 0) hx hb dX4_isPuddle_14 (by decide) ?_
    exact hret _ _ _ _ hP hS dX4_isPuddle_15
  · skip
    refine lv_iload_n hx hb dX4_isPuddle_4 rfl (lv_at hl 0 rfl) ?_
    refine lv_bipush (v := nI 12) hx hb dX4_isPuddle_5 (by decide) ?_
    refine lv_icmp_ge (tgt := 14) hx hb dX4_isPuddle_7 (by decide) (fun c_2 => ?_) (fun c_2 => ?_)
    · skip
      refine lv_iconst (v := 0) hx hb dX4_isPuddle_14 (by decide) ?_
      exact hret _ _ _ _ hP hS dX4_isPuddle_15
    · skip
      exact absurd (nI_out hx0 c_1) c_2
set_option maxHeartbeats 4000000 in
set_option maxRecDepth 100000 in
theorem c_X4_isWalker_in (l : Launch) (G : va_G) (ca : Nat → ClassId) (p : Nat) (hp1 : p < 6) : CtI l yX4_isWalker wsX4_isWalker ({ frames := 0, cells := 0, slots := 0, locals := 0 }) [.int (nI p)] G ca ([]) ([]) 1 := by
  refine CtI.ofW (cc := cX4_isWalker) (maxL := 1) (rt := .boolean) (by decide) rfl (Nat.le_of_ble_eq_true rfl) (by first | rfl | (split <;> rfl)) ?_
  intro pr en s m be me c A ls Q H hx hb hml hts hown hev hP hD hA hS hl hret
  have hown : s.vm.findClass RX4 = some m.cls := hown
  have hl : lv_has ls 1 [(0, .int (nI p))] := hl
  refine lv_iload_n hx hb dX4_isWalker_0 rfl (lv_at hl 0 rfl) ?_
  refine lv_if_lt (tgt := 14) hx hb dX4_isWalker_1 (by decide) (fun c_1 => ?_) (fun c_1 => ?_)
  · skip
    exact absurd c_1 (nI_pos (by omega))
  · skip
    refine lv_iload_n hx hb dX4_isWalker_4 rfl (lv_at hl 0 rfl) ?_
    refine lv_bipush (v := nI 6) hx hb dX4_isWalker_5 (by decide) ?_
    refine lv_icmp_ge (tgt := 14) hx hb dX4_isWalker_7 (by decide) (fun c_2 => ?_) (fun c_2 => ?_)
    · skip
      exact absurd c_2 (nI_ge (by omega) (by omega))
    · skip
      refine lv_iconst (v := 1) hx hb dX4_isWalker_10 (by decide) ?_
      refine lv_goto (tgt := 15) hx hb dX4_isWalker_11 (by decide) ?_
      exact hret _ _ _ _ hP hS dX4_isWalker_15
set_option maxHeartbeats 4000000 in
set_option maxRecDepth 100000 in
theorem c_X4_isWalker_out (l : Launch) (G : va_G) (ca : Nat → ClassId) (x : Int32) (hx0 : x < 0 ∨ nI 6 ≤ x) : CtI l yX4_isWalker wsX4_isWalker ({ frames := 0, cells := 0, slots := 0, locals := 0 }) [.int x] G ca ([]) ([]) 0 := by
  refine CtI.ofW (cc := cX4_isWalker) (maxL := 1) (rt := .boolean) (by decide) rfl (Nat.le_of_ble_eq_true rfl) (by first | rfl | (split <;> rfl)) ?_
  intro pr en s m be me c A ls Q H hx hb hml hts hown hev hP hD hA hS hl hret
  have hown : s.vm.findClass RX4 = some m.cls := hown
  have hl : lv_has ls 1 [(0, .int x)] := hl
  refine lv_iload_n hx hb dX4_isWalker_0 rfl (lv_at hl 0 rfl) ?_
  refine lv_if_lt (tgt := 14) hx hb dX4_isWalker_1 (by decide) (fun c_1 => ?_) (fun c_1 => ?_)
  · skip
    refine lv_iconst (v := 0) hx hb dX4_isWalker_14 (by decide) ?_
    exact hret _ _ _ _ hP hS dX4_isWalker_15
  · skip
    refine lv_iload_n hx hb dX4_isWalker_4 rfl (lv_at hl 0 rfl) ?_
    refine lv_bipush (v := nI 6) hx hb dX4_isWalker_5 (by decide) ?_
    refine lv_icmp_ge (tgt := 14) hx hb dX4_isWalker_7 (by decide) (fun c_2 => ?_) (fun c_2 => ?_)
    · skip
      refine lv_iconst (v := 0) hx hb dX4_isWalker_14 (by decide) ?_
      exact hret _ _ _ _ hP hS dX4_isWalker_15
    · skip
      exact absurd (nI_out hx0 c_1) c_2
set_option maxHeartbeats 4000000 in
set_option maxRecDepth 100000 in
theorem c_X4_brim_out (l : Launch) (G : va_G) (ca : Nat → ClassId) (xo sl : Nat) (hp ap : Nat) (g : Nat → Int32) (np : Nat) (hh ka : Nat) (n : Nat) (rf : Nat → Option Nat) (kj : Nat) (bj : Nat → Nat) (T : SS) (h : Nat) (a : Nat → Nat) (S : SS) (O : va_W) (Z : va_W) (x : Int32) (v : Int32) (hx0 : x < 0 ∨ nI 12 ≤ x) : CtI l yX4_brim wsX4_brim ({ frames := 1, cells := 0, slots := 0, locals := 20 }) [.ref xo, .int x, .int v] G ca ((xoT xo h hp hh sl) ++ ((paT ca hp ap (g, nI np)) ++ ((hiT ca hh ka (nI n) rf) ++ ((stT ca kj bj T) ++ ((stT ca h a S) ++ (O ++ Z)))))) ((xoT xo h hp hh sl) ++ ((paT ca hp ap (g, nI np)) ++ ((hiT ca hh ka (nI n) rf) ++ ((stT ca kj bj T) ++ ((stT ca h a S) ++ (O ++ Z)))))) (-1) := by
  refine CtI.ofW (cc := cX4_brim) (maxL := 4) (rt := .int) (by decide) rfl (Nat.le_of_ble_eq_true rfl) rfl ?_
  intro pr en s m be me c A ls Q H hx hb hml hts hown hev hP hD hA hS hl hret
  have hown : s.vm.findClass RX4 = some m.cls := hown
  have hl : lv_has ls 4 [(0, .ref xo), (1, .int x), (2, .int v)] := hl
  have in_wsX40 : ∀ w ∈ wsX40, w ∈ wsX4_brim := fun _ h => List.mem_cons_of_mem _ (List.mem_append_left _ (List.mem_append_left _ (List.mem_append_right _ h)))
  have in_wsX30 : ∀ w ∈ wsX30, w ∈ wsX4_brim := fun _ h => List.mem_cons_of_mem _ (List.mem_append_left _ (List.mem_append_right _ h))
  have in_wsX00 : ∀ w ∈ wsX00, w ∈ wsX4_brim := fun _ h => List.mem_cons_of_mem _ (List.mem_append_right _ h)
  refine lv_iload_n hx hb dX4_brim_0 rfl (lv_at hl 1 rfl) ?_
  refine goI0 (va_runS (As := [.int x]) (rest := []) ⟨hx, hb, hml, hown, hts⟩ (CtI.use (c_X4_isPuddle_out l G ca x hx0) H.size) (va_cwS 1 hts gX4_brim_X4_isPuddle rfl rfl rfl (by decide +kernel) ⟨Nat.le_of_ble_eq_true rfl, Nat.le_of_ble_eq_true rfl⟩) (pcW_S hev P_nil (D_nil (A := A))) rfl rfl hl.1 rfl (lv_room (Nat.le_of_ble_eq_true rfl)) dX4_brim_1 ⟨Nat.zero_le _, Nat.zero_le _⟩) hP hS hA (fun H locs hP hS => ?_)
  refine lv_if_ne (tgt := 9) hx hb dX4_brim_4 (by decide) (fun c_1 => ?_) (fun c_1 => ?_)
  · skip
    exact absurd (by decide) c_1
  · skip
    refine lv_iconst (v := (-1)) hx hb dX4_brim_7 (by decide) ?_
    exact hret _ _ _ _ hP hS dX4_brim_8
set_option maxHeartbeats 4000000 in
set_option maxRecDepth 100000 in
theorem c_X4_brim_bad (l : Launch) (G : va_G) (ca : Nat → ClassId) (xo sl : Nat) (hp ap : Nat) (g : Nat → Int32) (np : Nat) (hh ka : Nat) (n : Nat) (rf : Nat → Option Nat) (kj : Nat) (bj : Nat → Nat) (T : SS) (h : Nat) (a : Nat → Nat) (S : SS) (O : va_W) (Z : va_W) (p : Nat) (v : Int32) (hp1 : p < 12) (hv : v < 1 ∨ ¬ v ≤ 60) : CtI l yX4_brim wsX4_brim ({ frames := 1, cells := 0, slots := 0, locals := 20 }) [.ref xo, .int (nI p), .int v] G ca ((xoT xo h hp hh sl) ++ ((paT ca hp ap (g, nI np)) ++ ((hiT ca hh ka (nI n) rf) ++ ((stT ca kj bj T) ++ ((stT ca h a S) ++ (O ++ Z)))))) ((xoT xo h hp hh sl) ++ ((paT ca hp ap (g, nI np)) ++ ((hiT ca hh ka (nI n) rf) ++ ((stT ca kj bj T) ++ ((stT ca h a S) ++ (O ++ Z)))))) (-2) := by
  refine CtI.ofW (cc := cX4_brim) (maxL := 4) (rt := .int) (by decide) rfl (Nat.le_of_ble_eq_true rfl) rfl ?_
  intro pr en s m be me c A ls Q H hx hb hml hts hown hev hP hD hA hS hl hret
  have hown : s.vm.findClass RX4 = some m.cls := hown
  have hl : lv_has ls 4 [(0, .ref xo), (1, .int (nI p)), (2, .int v)] := hl
  have in_wsX40 : ∀ w ∈ wsX40, w ∈ wsX4_brim := fun _ h => List.mem_cons_of_mem _ (List.mem_append_left _ (List.mem_append_left _ (List.mem_append_right _ h)))
  have in_wsX30 : ∀ w ∈ wsX30, w ∈ wsX4_brim := fun _ h => List.mem_cons_of_mem _ (List.mem_append_left _ (List.mem_append_right _ h))
  have in_wsX00 : ∀ w ∈ wsX00, w ∈ wsX4_brim := fun _ h => List.mem_cons_of_mem _ (List.mem_append_right _ h)
  refine lv_iload_n hx hb dX4_brim_0 rfl (lv_at hl 1 rfl) ?_
  refine goI0 (va_runS (As := [.int (nI p)]) (rest := []) ⟨hx, hb, hml, hown, hts⟩ (CtI.use (c_X4_isPuddle_in l G ca p (by omega)) H.size) (va_cwS 1 hts gX4_brim_X4_isPuddle rfl rfl rfl (by decide +kernel) ⟨Nat.le_of_ble_eq_true rfl, Nat.le_of_ble_eq_true rfl⟩) (pcW_S hev P_nil (D_nil (A := A))) rfl rfl hl.1 rfl (lv_room (Nat.le_of_ble_eq_true rfl)) dX4_brim_1 ⟨Nat.zero_le _, Nat.zero_le _⟩) hP hS hA (fun H locs hP hS => ?_)
  refine lv_if_ne (tgt := 9) hx hb dX4_brim_4 (by decide) (fun c_1 => ?_) (fun c_1 => ?_)
  · skip
    refine lv_iload_n hx hb dX4_brim_9 rfl (lv_at hl 2 rfl) ?_
    refine lv_iconst (v := 1) hx hb dX4_brim_10 (by decide) ?_
    refine lv_icmp_lt (tgt := 20) hx hb dX4_brim_11 (by decide) (fun c_2 => ?_) (fun c_2 => ?_)
    · skip
      refine lv_bipush (v := (-2)) hx hb dX4_brim_20 (by decide) ?_
      exact hret _ _ _ _ hP hS dX4_brim_22
    · skip
      refine lv_iload_n hx hb dX4_brim_14 rfl (lv_at hl 2 rfl) ?_
      refine lv_bipush (v := 60) hx hb dX4_brim_15 (by decide) ?_
      refine lv_icmp_le (tgt := 23) hx hb dX4_brim_17 (by decide) (fun c_3 => ?_) (fun c_3 => ?_)
      · skip
        exact hv.elim (fun q => absurd q (by assumption)) (fun q => absurd c_3 q)
      · skip
        refine lv_bipush (v := (-2)) hx hb dX4_brim_20 (by decide) ?_
        exact hret _ _ _ _ hP hS dX4_brim_22
  · skip
    exact absurd c_1 (by decide)
set_option maxHeartbeats 4000000 in
set_option maxRecDepth 100000 in
theorem c_X4_brim_ok (l : Launch) (G : va_G) (ca : Nat → ClassId) (xo sl : Nat) (hp ap : Nat) (g : Nat → Int32) (np : Nat) (hh ka : Nat) (n : Nat) (rf : Nat → Option Nat) (kj : Nat) (bj : Nat → Nat) (T : SS) (h : Nat) (a : Nat → Nat) (S : SS) (O : va_W) (Z : va_W) (p : Nat) (v : Int32) (hn6 : n ≤ 6) (hkj : recT n rf = some kj) (hob : ∀ i, i < 6 → ∃ (v x : Nat) (y : List Value), rf i = some v ∧ (hiT ca hh ka (nI n) rf ++ (stT ca kj bj T ++ (stT ca h a S ++ O)))[x]? = some (v, .inr (3, y))) (hp1 : p < 12) (hv1 : ¬ v < 1) (hv2 : v ≤ 60) : CtI l yX4_brim wsX4_brim ({ frames := 3, cells := 0, slots := 0, locals := 64 }) [.ref xo, .int (nI p), .int v] G ca ((xoT xo h hp hh sl) ++ ((paT ca hp ap (g, nI np)) ++ ((hiT ca hh ka (nI n) rf) ++ ((stT ca kj bj T) ++ ((stT ca h a S) ++ (O ++ Z)))))) ((xoT xo h hp hh sl) ++ ((paT ca hp ap (g, nI np)) ++ ((hiT ca hh ka (nI (recN n)) (recR n rf)) ++ ((stT ca kj bj S) ++ ((stT ca h a (s_se S, upd (s_br S) p v, dnWa (s_wa S) p v, s_cr S, s_sh S, s_ow S, s_pa S, s_cb S, s_pd S, s_fz S, s_dk S, s_dy S, s_fe S, s_dr S, dnDn (s_wa S) (s_dn S) p v)) ++ (O ++ Z)))))) (s_br S p) := by
  refine CtI.ofW (cc := cX4_brim) (maxL := 4) (rt := .int) (by decide) rfl (Nat.le_of_ble_eq_true rfl) rfl ?_
  intro pr en s m be me c A ls Q H hx hb hml hts hown hev hP hD hA hS hl hret
  have hown : s.vm.findClass RX4 = some m.cls := hown
  have hl : lv_has ls 4 [(0, .ref xo), (1, .int (nI p)), (2, .int v)] := hl
  have in_wsX40 : ∀ w ∈ wsX40, w ∈ wsX4_brim := fun _ h => List.mem_cons_of_mem _ (List.mem_append_left _ (List.mem_append_left _ (List.mem_append_right _ h)))
  have in_wsX30 : ∀ w ∈ wsX30, w ∈ wsX4_brim := fun _ h => List.mem_cons_of_mem _ (List.mem_append_left _ (List.mem_append_right _ h))
  have in_wsX00 : ∀ w ∈ wsX00, w ∈ wsX4_brim := fun _ h => List.mem_cons_of_mem _ (List.mem_append_right _ h)
  refine lv_iload_n hx hb dX4_brim_0 rfl (lv_at hl 1 rfl) ?_
  refine goI0 (va_runS (As := [.int (nI p)]) (rest := []) ⟨hx, hb, hml, hown, hts⟩ (CtI.use (c_X4_isPuddle_in l G ca p (by omega)) H.size) (va_cwS 1 hts gX4_brim_X4_isPuddle rfl rfl rfl (by decide +kernel) ⟨Nat.le_of_ble_eq_true rfl, Nat.le_of_ble_eq_true rfl⟩) (pcW_S hev P_nil (D_nil (A := A))) rfl rfl hl.1 rfl (lv_room (Nat.le_of_ble_eq_true rfl)) dX4_brim_1 ⟨Nat.zero_le _, Nat.zero_le _⟩) hP hS hA (fun H locs hP hS => ?_)
  refine lv_if_ne (tgt := 9) hx hb dX4_brim_4 (by decide) (fun c_1 => ?_) (fun c_1 => ?_)
  · skip
    refine lv_iload_n hx hb dX4_brim_9 rfl (lv_at hl 2 rfl) ?_
    refine lv_iconst (v := 1) hx hb dX4_brim_10 (by decide) ?_
    refine lv_icmp_lt (tgt := 20) hx hb dX4_brim_11 (by decide) (fun c_2 => ?_) (fun c_2 => ?_)
    · skip
      exact absurd c_2 hv1
    · skip
      refine lv_iload_n hx hb dX4_brim_14 rfl (lv_at hl 2 rfl) ?_
      refine lv_bipush (v := 60) hx hb dX4_brim_15 (by decide) ?_
      refine lv_icmp_le (tgt := 23) hx hb dX4_brim_17 (by decide) (fun c_3 => ?_) (fun c_3 => ?_)
      · skip
        refine lv_aload_n hx hb dX4_brim_23 rfl (lv_at hl 0 rfl) ?_
        refine va_get (D := G) (ci := 4) (v := .ref hh) (C := RX4) (T := TX4) (N := 4) hx hb hts in_wsX40 hown hev.1 hP 0 rfl rfl 2 (by decide) (hts (.fieldLink RX4 26 "PuddleMinistries" "history" "LPuddleMinistries$History;") (List.mem_of_getElem? (i := 1) rfl)) (fun _ h9 => h9) rfl dX4_brim_24 ?_
        refine lv_aload_n hx hb dX4_brim_27 rfl (lv_at hl 0 rfl) ?_
        refine va_get (D := G) (ci := 4) (v := .ref h) (C := RX4) (T := TX4) (N := 4) hx hb hts in_wsX40 hown hev.1 hP 0 rfl rfl 0 (by decide) (hts (.fieldLink RX4 10 "PuddleMinistries" "street" "LPuddleMinistries$Street;") (List.mem_of_getElem? (i := 2) rfl)) (fun _ h9 => h9) rfl dX4_brim_28 ?_
        have hP : va_P G vwCl (((xoT xo h hp hh sl) ++ (paT ca hp ap (g, nI np))) ++ (((hiT ca hh ka (nI n) rf) ++ ((stT ca kj bj T) ++ ((stT ca h a S) ++ O))) ++ Z)) H := hP
        have hD : va_D A (((xoT xo h hp hh sl) ++ (paT ca hp ap (g, nI np))) ++ (((hiT ca hh ka (nI n) rf) ++ ((stT ca kj bj T) ++ ((stT ca h a S) ++ O))) ++ Z)) := hD
        refine goV (va_runV (As := [.ref h]) (rest := []) ⟨hx, hb, hml, hown, hts⟩ (CtV.use (c_X0_record l G ca hh ka n rf kj bj T h a S O hn6 hkj hob) H.size) (cwV 1 hts gX4_brim_X0_record rfl rfl rfl (by decide +kernel) ⟨Nat.le_of_ble_eq_true rfl, Nat.le_of_ble_eq_true rfl⟩) (pcW_V hev (P_left (P_right hP)) (D_left (D_right hD)) (q0 := 0) rfl rfl rfl) rfl rfl hl.1 rfl (lv_room (Nat.le_of_ble_eq_true rfl)) dX4_brim_31 ⟨Nat.zero_le _, Nat.zero_le _⟩) hP hD hS hA (app_F hiF (app_F stF (app_F stF rfl))) (fun H locs hP hD hS => ?_)
        have hP : va_P G vwCl ((xoT xo h hp hh sl) ++ ((paT ca hp ap (g, nI np)) ++ ((hiT ca hh ka (nI (recN n)) (recR n rf)) ++ ((stT ca kj bj S) ++ ((stT ca h a S) ++ (O ++ Z)))))) H := hP
        have hD : va_D A ((xoT xo h hp hh sl) ++ ((paT ca hp ap (g, nI np)) ++ ((hiT ca hh ka (nI (recN n)) (recR n rf)) ++ ((stT ca kj bj S) ++ ((stT ca h a S) ++ (O ++ Z)))))) := hD
        refine lv_aload_n hx hb dX4_brim_34 rfl (lv_at hl 0 rfl) ?_
        refine va_get (D := G) (ci := 4) (v := .ref h) (C := RX4) (T := TX4) (N := 4) hx hb hts in_wsX40 hown hev.1 hP 0 rfl rfl 0 (by decide) (hts (.fieldLink RX4 10 "PuddleMinistries" "street" "LPuddleMinistries$Street;") (List.mem_of_getElem? (i := 2) rfl)) (fun _ h9 => h9) rfl dX4_brim_35 ?_
        refine va_get (D := G) (ci := 3) (v := .ref (a 1)) (C := RX3) (T := TX3) (N := 15) hx hb hts in_wsX30 hown hev.1 hP 15 rfl rfl 1 (by decide) (hts (.fieldLink RX4 55 "PuddleMinistries$Street" "brims" "[I") (List.mem_of_getElem? (i := 3) rfl)) (fun _ h9 => h9) rfl dX4_brim_38 ?_
        refine lv_iload_n hx hb dX4_brim_41 rfl (lv_at hl 1 rfl) ?_
        refine b_iald hx hb hev.1 hP 17 rfl rfl (j := p) (by omega) (by decide) dX4_brim_42 ?_
        refine lv_istore_n (lv' := [(3, .int ((s_br S) p)), (0, .ref xo), (1, .int (nI p)), (2, .int v)]) hx hb dX4_brim_43 rfl hl (by decide) rfl (fun ls hl => ?_)
        refine lv_aload_n hx hb dX4_brim_44 rfl (lv_at hl 1 rfl) ?_
        refine va_get (D := G) (ci := 4) (v := .ref h) (C := RX4) (T := TX4) (N := 4) hx hb hts in_wsX40 hown hev.1 hP 0 rfl rfl 0 (by decide) (hts (.fieldLink RX4 10 "PuddleMinistries" "street" "LPuddleMinistries$Street;") (List.mem_of_getElem? (i := 2) rfl)) (fun _ h9 => h9) rfl dX4_brim_45 ?_
        refine va_get (D := G) (ci := 3) (v := .ref (a 1)) (C := RX3) (T := TX3) (N := 15) hx hb hts in_wsX30 hown hev.1 hP 15 rfl rfl 1 (by decide) (hts (.fieldLink RX4 55 "PuddleMinistries$Street" "brims" "[I") (List.mem_of_getElem? (i := 3) rfl)) (fun _ h9 => h9) rfl dX4_brim_48 ?_
        refine lv_iload_n hx hb dX4_brim_51 rfl (lv_at hl 2 rfl) ?_
        refine lv_iload_n hx hb dX4_brim_52 rfl (lv_at hl 3 rfl) ?_
        refine b_iast hx hb hev.1 hP hD hS 17 rfl rfl (j := p) (by omega) (by decide) dX4_brim_53 (fun H locs hP hD hS => ?_)
        have hP : va_P G vwCl ((xoT xo h hp hh sl) ++ ((paT ca hp ap (g, nI np)) ++ ((hiT ca hh ka (nI (recN n)) (recR n rf)) ++ ((stT ca kj bj S) ++ ((stT ca h a (s_se S, upd (s_br S) p v, s_wa S, s_cr S, s_sh S, s_ow S, s_pa S, s_cb S, s_pd S, s_fz S, s_dk S, s_dy S, s_fe S, s_dr S, s_dn S)) ++ (O ++ Z)))))) H := hP
        have hD : va_D A ((xoT xo h hp hh sl) ++ ((paT ca hp ap (g, nI np)) ++ ((hiT ca hh ka (nI (recN n)) (recR n rf)) ++ ((stT ca kj bj S) ++ ((stT ca h a (s_se S, upd (s_br S) p v, s_wa S, s_cr S, s_sh S, s_ow S, s_pa S, s_cb S, s_pd S, s_fz S, s_dk S, s_dy S, s_fe S, s_dr S, s_dn S)) ++ (O ++ Z)))))) := hD
        refine lv_aload_n hx hb dX4_brim_54 rfl (lv_at hl 1 rfl) ?_
        refine va_get (D := G) (ci := 4) (v := .ref h) (C := RX4) (T := TX4) (N := 4) hx hb hts in_wsX40 hown hev.1 hP 0 rfl rfl 0 (by decide) (hts (.fieldLink RX4 10 "PuddleMinistries" "street" "LPuddleMinistries$Street;") (List.mem_of_getElem? (i := 2) rfl)) (fun _ h9 => h9) rfl dX4_brim_55 ?_
        refine lv_iload_n hx hb dX4_brim_58 rfl (lv_at hl 2 rfl) ?_
        refine lv_iload_n hx hb dX4_brim_59 rfl (lv_at hl 3 rfl) ?_
        have hP : va_P G vwCl (((xoT xo h hp hh sl) ++ ((paT ca hp ap (g, nI np)) ++ ((hiT ca hh ka (nI (recN n)) (recR n rf)) ++ (stT ca kj bj S)))) ++ ((stT ca h a (s_se S, upd (s_br S) p v, s_wa S, s_cr S, s_sh S, s_ow S, s_pa S, s_cb S, s_pd S, s_fz S, s_dk S, s_dy S, s_fe S, s_dr S, s_dn S)) ++ (O ++ Z))) H := hP
        have hD : va_D A (((xoT xo h hp hh sl) ++ ((paT ca hp ap (g, nI np)) ++ ((hiT ca hh ka (nI (recN n)) (recR n rf)) ++ (stT ca kj bj S)))) ++ ((stT ca h a (s_se S, upd (s_br S) p v, s_wa S, s_cr S, s_sh S, s_ow S, s_pa S, s_cb S, s_pd S, s_fz S, s_dk S, s_dy S, s_fe S, s_dr S, s_dn S)) ++ (O ++ Z))) := hD
        refine goV (va_runV (As := [.int (nI p), .int v]) (rest := []) ⟨hx, hb, hml, hown, hts⟩ (CtV.use (c_X3_drainDownTo l G ca h a (s_se S, upd (s_br S) p v, s_wa S, s_cr S, s_sh S, s_ow S, s_pa S, s_cb S, s_pd S, s_fz S, s_dk S, s_dy S, s_fe S, s_dr S, s_dn S) p v (by omega)) H.size) (cwV 2 hts gX4_brim_X3_drainDownTo rfl rfl rfl (by decide +kernel) ⟨Nat.le_of_ble_eq_true rfl, Nat.le_of_ble_eq_true rfl⟩) (pcW_V hev (P_left (P_right hP)) (D_left (D_right hD)) (q0 := 0) rfl rfl rfl) rfl rfl hl.1 rfl (lv_room (Nat.le_of_ble_eq_true rfl)) dX4_brim_60 ⟨Nat.zero_le _, Nat.zero_le _⟩) hP hD hS hA stF (fun H locs hP hD hS => ?_)
        have hP : va_P G vwCl ((xoT xo h hp hh sl) ++ ((paT ca hp ap (g, nI np)) ++ ((hiT ca hh ka (nI (recN n)) (recR n rf)) ++ ((stT ca kj bj S) ++ ((stT ca h a (s_se S, upd (s_br S) p v, dnWa ((s_wa S)) p v, s_cr S, s_sh S, s_ow S, s_pa S, s_cb S, s_pd S, s_fz S, s_dk S, s_dy S, s_fe S, s_dr S, dnDn ((s_wa S)) ((s_dn S)) p v)) ++ (O ++ Z)))))) H := hP
        have hD : va_D A ((xoT xo h hp hh sl) ++ ((paT ca hp ap (g, nI np)) ++ ((hiT ca hh ka (nI (recN n)) (recR n rf)) ++ ((stT ca kj bj S) ++ ((stT ca h a (s_se S, upd (s_br S) p v, dnWa ((s_wa S)) p v, s_cr S, s_sh S, s_ow S, s_pa S, s_cb S, s_pd S, s_fz S, s_dk S, s_dy S, s_fe S, s_dr S, dnDn ((s_wa S)) ((s_dn S)) p v)) ++ (O ++ Z)))))) := hD
        refine lv_iload_n hx hb dX4_brim_63 rfl (lv_at hl 0 rfl) ?_
        refine lv_eqi (y := s_br S p) rfl ?_
        exact hret _ _ _ _ hP hS dX4_brim_64
      · skip
        exact absurd hv2 c_3
  · skip
    exact absurd c_1 (by decide)
set_option maxHeartbeats 4000000 in
set_option maxRecDepth 100000 in
theorem c_X4_drain_out (l : Launch) (G : va_G) (ca : Nat → ClassId) (xo sl : Nat) (hp ap : Nat) (g : Nat → Int32) (np : Nat) (hh ka : Nat) (n : Nat) (rf : Nat → Option Nat) (kj : Nat) (bj : Nat → Nat) (T : SS) (h : Nat) (a : Nat → Nat) (S : SS) (O : va_W) (Z : va_W) (x : Int32) (hx0 : x < 0 ∨ nI 12 ≤ x) : CtI l yX4_drain wsX4_drain ({ frames := 1, cells := 0, slots := 0, locals := 20 }) [.ref xo, .int x] G ca ((xoT xo h hp hh sl) ++ ((paT ca hp ap (g, nI np)) ++ ((hiT ca hh ka (nI n) rf) ++ ((stT ca kj bj T) ++ ((stT ca h a S) ++ (O ++ Z)))))) ((xoT xo h hp hh sl) ++ ((paT ca hp ap (g, nI np)) ++ ((hiT ca hh ka (nI n) rf) ++ ((stT ca kj bj T) ++ ((stT ca h a S) ++ (O ++ Z)))))) (-1) := by
  refine CtI.ofW (cc := cX4_drain) (maxL := 3) (rt := .int) (by decide) rfl (Nat.le_of_ble_eq_true rfl) rfl ?_
  intro pr en s m be me c A ls Q H hx hb hml hts hown hev hP hD hA hS hl hret
  have hown : s.vm.findClass RX4 = some m.cls := hown
  have hl : lv_has ls 3 [(0, .ref xo), (1, .int x)] := hl
  have in_wsX40 : ∀ w ∈ wsX40, w ∈ wsX4_drain := fun _ h => List.mem_cons_of_mem _ (List.mem_append_left _ (List.mem_append_left _ (List.mem_append_right _ h)))
  have in_wsX30 : ∀ w ∈ wsX30, w ∈ wsX4_drain := fun _ h => List.mem_cons_of_mem _ (List.mem_append_left _ (List.mem_append_right _ h))
  have in_wsX00 : ∀ w ∈ wsX00, w ∈ wsX4_drain := fun _ h => List.mem_cons_of_mem _ (List.mem_append_right _ h)
  refine lv_iload_n hx hb dX4_drain_0 rfl (lv_at hl 1 rfl) ?_
  refine goI0 (va_runS (As := [.int x]) (rest := []) ⟨hx, hb, hml, hown, hts⟩ (CtI.use (c_X4_isPuddle_out l G ca x hx0) H.size) (va_cwS 1 hts gX4_drain_X4_isPuddle rfl rfl rfl (by decide +kernel) ⟨Nat.le_of_ble_eq_true rfl, Nat.le_of_ble_eq_true rfl⟩) (pcW_S hev P_nil (D_nil (A := A))) rfl rfl hl.1 rfl (lv_room (Nat.le_of_ble_eq_true rfl)) dX4_drain_1 ⟨Nat.zero_le _, Nat.zero_le _⟩) hP hS hA (fun H locs hP hS => ?_)
  refine lv_if_ne (tgt := 9) hx hb dX4_drain_4 (by decide) (fun c_1 => ?_) (fun c_1 => ?_)
  · skip
    exact absurd (by decide) c_1
  · skip
    refine lv_iconst (v := (-1)) hx hb dX4_drain_7 (by decide) ?_
    exact hret _ _ _ _ hP hS dX4_drain_8
set_option maxHeartbeats 4000000 in
set_option maxRecDepth 100000 in
theorem c_X4_drain_ducks (l : Launch) (G : va_G) (ca : Nat → ClassId) (xo sl : Nat) (hp ap : Nat) (g : Nat → Int32) (np : Nat) (hh ka : Nat) (n : Nat) (rf : Nat → Option Nat) (kj : Nat) (bj : Nat → Nat) (T : SS) (h : Nat) (a : Nat → Nat) (S : SS) (O : va_W) (Z : va_W) (p : Nat) (hp1 : p < 12) (hd : ¬ bt1 (s_dk S) p = 0) : CtI l yX4_drain wsX4_drain ({ frames := 2, cells := 0, slots := 0, locals := 42 }) [.ref xo, .int (nI p)] G ca ((xoT xo h hp hh sl) ++ ((paT ca hp ap (g, nI np)) ++ ((hiT ca hh ka (nI n) rf) ++ ((stT ca kj bj T) ++ ((stT ca h a S) ++ (O ++ Z)))))) ((xoT xo h hp hh sl) ++ ((paT ca hp ap (g, nI np)) ++ ((hiT ca hh ka (nI n) rf) ++ ((stT ca kj bj T) ++ ((stT ca h a S) ++ (O ++ Z)))))) (-5) := by
  refine CtI.ofW (cc := cX4_drain) (maxL := 3) (rt := .int) (by decide) rfl (Nat.le_of_ble_eq_true rfl) rfl ?_
  intro pr en s m be me c A ls Q H hx hb hml hts hown hev hP hD hA hS hl hret
  have hown : s.vm.findClass RX4 = some m.cls := hown
  have hl : lv_has ls 3 [(0, .ref xo), (1, .int (nI p))] := hl
  have in_wsX40 : ∀ w ∈ wsX40, w ∈ wsX4_drain := fun _ h => List.mem_cons_of_mem _ (List.mem_append_left _ (List.mem_append_left _ (List.mem_append_right _ h)))
  have in_wsX30 : ∀ w ∈ wsX30, w ∈ wsX4_drain := fun _ h => List.mem_cons_of_mem _ (List.mem_append_left _ (List.mem_append_right _ h))
  have in_wsX00 : ∀ w ∈ wsX00, w ∈ wsX4_drain := fun _ h => List.mem_cons_of_mem _ (List.mem_append_right _ h)
  refine lv_iload_n hx hb dX4_drain_0 rfl (lv_at hl 1 rfl) ?_
  refine goI0 (va_runS (As := [.int (nI p)]) (rest := []) ⟨hx, hb, hml, hown, hts⟩ (CtI.use (c_X4_isPuddle_in l G ca p (by omega)) H.size) (va_cwS 1 hts gX4_drain_X4_isPuddle rfl rfl rfl (by decide +kernel) ⟨Nat.le_of_ble_eq_true rfl, Nat.le_of_ble_eq_true rfl⟩) (pcW_S hev P_nil (D_nil (A := A))) rfl rfl hl.1 rfl (lv_room (Nat.le_of_ble_eq_true rfl)) dX4_drain_1 ⟨Nat.zero_le _, Nat.zero_le _⟩) hP hS hA (fun H locs hP hS => ?_)
  refine lv_if_ne (tgt := 9) hx hb dX4_drain_4 (by decide) (fun c_1 => ?_) (fun c_1 => ?_)
  · skip
    refine lv_aload_n hx hb dX4_drain_9 rfl (lv_at hl 0 rfl) ?_
    refine va_get (D := G) (ci := 4) (v := .ref h) (C := RX4) (T := TX4) (N := 4) hx hb hts in_wsX40 hown hev.1 hP 0 rfl rfl 0 (by decide) (hts (.fieldLink RX4 10 "PuddleMinistries" "street" "LPuddleMinistries$Street;") (List.mem_of_getElem? (i := 1) rfl)) (fun _ h9 => h9) rfl dX4_drain_10 ?_
    refine lv_iload_n hx hb dX4_drain_13 rfl (lv_at hl 1 rfl) ?_
    have hP : va_P G vwCl (((xoT xo h hp hh sl) ++ ((paT ca hp ap (g, nI np)) ++ ((hiT ca hh ka (nI n) rf) ++ (stT ca kj bj T)))) ++ ((stT ca h a S) ++ (O ++ Z))) H := hP
    have hD : va_D A (((xoT xo h hp hh sl) ++ ((paT ca hp ap (g, nI np)) ++ ((hiT ca hh ka (nI n) rf) ++ (stT ca kj bj T)))) ++ ((stT ca h a S) ++ (O ++ Z))) := hD
    refine goI (va_runV (As := [.int (nI p)]) (rest := []) ⟨hx, hb, hml, hown, hts⟩ (CtI.use (c_X3_hasDucks l G ca h a S p) H.size) (cwV 1 hts gX4_drain_X3_hasDucks rfl rfl rfl (by decide +kernel) ⟨Nat.le_of_ble_eq_true rfl, Nat.le_of_ble_eq_true rfl⟩) (pcW_V hev (P_left (P_right hP)) (D_left (D_right hD)) (q0 := 0) rfl rfl rfl) rfl rfl hl.1 rfl (lv_room (Nat.le_of_ble_eq_true rfl)) dX4_drain_14 ⟨Nat.zero_le _, Nat.zero_le _⟩) hP hD hS hA stF (fun H locs hP hD hS => ?_)
    have hP : va_P G vwCl ((xoT xo h hp hh sl) ++ ((paT ca hp ap (g, nI np)) ++ ((hiT ca hh ka (nI n) rf) ++ ((stT ca kj bj T) ++ ((stT ca h a S) ++ (O ++ Z)))))) H := hP
    have hD : va_D A ((xoT xo h hp hh sl) ++ ((paT ca hp ap (g, nI np)) ++ ((hiT ca hh ka (nI n) rf) ++ ((stT ca kj bj T) ++ ((stT ca h a S) ++ (O ++ Z)))))) := hD
    refine lv_if_eq (tgt := 23) hx hb dX4_drain_17 (by decide) (fun c_2 => ?_) (fun c_2 => ?_)
    · skip
      exact absurd c_2 hd
    · skip
      refine lv_bipush (v := (-5)) hx hb dX4_drain_20 (by decide) ?_
      exact hret _ _ _ _ hP hS dX4_drain_22
  · skip
    exact absurd c_1 (by decide)
set_option maxHeartbeats 4000000 in
set_option maxRecDepth 100000 in
theorem c_X4_drain_ok (l : Launch) (G : va_G) (ca : Nat → ClassId) (xo sl : Nat) (hp ap : Nat) (g : Nat → Int32) (np : Nat) (hh ka : Nat) (n : Nat) (rf : Nat → Option Nat) (kj : Nat) (bj : Nat → Nat) (T : SS) (h : Nat) (a : Nat → Nat) (S : SS) (O : va_W) (Z : va_W) (p : Nat) (hn6 : n ≤ 6) (hkj : recT n rf = some kj) (hob : ∀ i, i < 6 → ∃ (v x : Nat) (y : List Value), rf i = some v ∧ (hiT ca hh ka (nI n) rf ++ (stT ca kj bj T ++ (stT ca h a S ++ O)))[x]? = some (v, .inr (3, y))) (hp1 : p < 12) (hd : bt1 (s_dk S) p = 0) : CtI l yX4_drain wsX4_drain ({ frames := 3, cells := 0, slots := 0, locals := 64 }) [.ref xo, .int (nI p)] G ca ((xoT xo h hp hh sl) ++ ((paT ca hp ap (g, nI np)) ++ ((hiT ca hh ka (nI n) rf) ++ ((stT ca kj bj T) ++ ((stT ca h a S) ++ (O ++ Z)))))) ((xoT xo h hp hh sl) ++ ((paT ca hp ap (g, nI np)) ++ ((hiT ca hh ka (nI (recN n)) (recR n rf)) ++ ((stT ca kj bj S) ++ ((stT ca h a (s_se S, s_br S, dnWa (s_wa S) p 0, s_cr S, s_sh S, s_ow S, s_pa S, s_cb S, s_pd S, thaw1 (s_fz S) p, s_dk S, s_dy S, s_fe S, s_dr S, dnDn (s_wa S) (s_dn S) p 0)) ++ (O ++ Z)))))) (s_wa S p) := by
  refine CtI.ofW (cc := cX4_drain) (maxL := 3) (rt := .int) (by decide) rfl (Nat.le_of_ble_eq_true rfl) rfl ?_
  intro pr en s m be me c A ls Q H hx hb hml hts hown hev hP hD hA hS hl hret
  have hown : s.vm.findClass RX4 = some m.cls := hown
  have hl : lv_has ls 3 [(0, .ref xo), (1, .int (nI p))] := hl
  have in_wsX40 : ∀ w ∈ wsX40, w ∈ wsX4_drain := fun _ h => List.mem_cons_of_mem _ (List.mem_append_left _ (List.mem_append_left _ (List.mem_append_right _ h)))
  have in_wsX30 : ∀ w ∈ wsX30, w ∈ wsX4_drain := fun _ h => List.mem_cons_of_mem _ (List.mem_append_left _ (List.mem_append_right _ h))
  have in_wsX00 : ∀ w ∈ wsX00, w ∈ wsX4_drain := fun _ h => List.mem_cons_of_mem _ (List.mem_append_right _ h)
  refine lv_iload_n hx hb dX4_drain_0 rfl (lv_at hl 1 rfl) ?_
  refine goI0 (va_runS (As := [.int (nI p)]) (rest := []) ⟨hx, hb, hml, hown, hts⟩ (CtI.use (c_X4_isPuddle_in l G ca p (by omega)) H.size) (va_cwS 1 hts gX4_drain_X4_isPuddle rfl rfl rfl (by decide +kernel) ⟨Nat.le_of_ble_eq_true rfl, Nat.le_of_ble_eq_true rfl⟩) (pcW_S hev P_nil (D_nil (A := A))) rfl rfl hl.1 rfl (lv_room (Nat.le_of_ble_eq_true rfl)) dX4_drain_1 ⟨Nat.zero_le _, Nat.zero_le _⟩) hP hS hA (fun H locs hP hS => ?_)
  refine lv_if_ne (tgt := 9) hx hb dX4_drain_4 (by decide) (fun c_1 => ?_) (fun c_1 => ?_)
  · skip
    refine lv_aload_n hx hb dX4_drain_9 rfl (lv_at hl 0 rfl) ?_
    refine va_get (D := G) (ci := 4) (v := .ref h) (C := RX4) (T := TX4) (N := 4) hx hb hts in_wsX40 hown hev.1 hP 0 rfl rfl 0 (by decide) (hts (.fieldLink RX4 10 "PuddleMinistries" "street" "LPuddleMinistries$Street;") (List.mem_of_getElem? (i := 1) rfl)) (fun _ h9 => h9) rfl dX4_drain_10 ?_
    refine lv_iload_n hx hb dX4_drain_13 rfl (lv_at hl 1 rfl) ?_
    have hP : va_P G vwCl (((xoT xo h hp hh sl) ++ ((paT ca hp ap (g, nI np)) ++ ((hiT ca hh ka (nI n) rf) ++ (stT ca kj bj T)))) ++ ((stT ca h a S) ++ (O ++ Z))) H := hP
    have hD : va_D A (((xoT xo h hp hh sl) ++ ((paT ca hp ap (g, nI np)) ++ ((hiT ca hh ka (nI n) rf) ++ (stT ca kj bj T)))) ++ ((stT ca h a S) ++ (O ++ Z))) := hD
    refine goI (va_runV (As := [.int (nI p)]) (rest := []) ⟨hx, hb, hml, hown, hts⟩ (CtI.use (c_X3_hasDucks l G ca h a S p) H.size) (cwV 1 hts gX4_drain_X3_hasDucks rfl rfl rfl (by decide +kernel) ⟨Nat.le_of_ble_eq_true rfl, Nat.le_of_ble_eq_true rfl⟩) (pcW_V hev (P_left (P_right hP)) (D_left (D_right hD)) (q0 := 0) rfl rfl rfl) rfl rfl hl.1 rfl (lv_room (Nat.le_of_ble_eq_true rfl)) dX4_drain_14 ⟨Nat.zero_le _, Nat.zero_le _⟩) hP hD hS hA stF (fun H locs hP hD hS => ?_)
    have hP : va_P G vwCl ((xoT xo h hp hh sl) ++ ((paT ca hp ap (g, nI np)) ++ ((hiT ca hh ka (nI n) rf) ++ ((stT ca kj bj T) ++ ((stT ca h a S) ++ (O ++ Z)))))) H := hP
    have hD : va_D A ((xoT xo h hp hh sl) ++ ((paT ca hp ap (g, nI np)) ++ ((hiT ca hh ka (nI n) rf) ++ ((stT ca kj bj T) ++ ((stT ca h a S) ++ (O ++ Z)))))) := hD
    refine lv_if_eq (tgt := 23) hx hb dX4_drain_17 (by decide) (fun c_2 => ?_) (fun c_2 => ?_)
    · skip
      refine lv_aload_n hx hb dX4_drain_23 rfl (lv_at hl 0 rfl) ?_
      refine va_get (D := G) (ci := 4) (v := .ref hh) (C := RX4) (T := TX4) (N := 4) hx hb hts in_wsX40 hown hev.1 hP 0 rfl rfl 2 (by decide) (hts (.fieldLink RX4 26 "PuddleMinistries" "history" "LPuddleMinistries$History;") (List.mem_of_getElem? (i := 2) rfl)) (fun _ h9 => h9) rfl dX4_drain_24 ?_
      refine lv_aload_n hx hb dX4_drain_27 rfl (lv_at hl 0 rfl) ?_
      refine va_get (D := G) (ci := 4) (v := .ref h) (C := RX4) (T := TX4) (N := 4) hx hb hts in_wsX40 hown hev.1 hP 0 rfl rfl 0 (by decide) (hts (.fieldLink RX4 10 "PuddleMinistries" "street" "LPuddleMinistries$Street;") (List.mem_of_getElem? (i := 1) rfl)) (fun _ h9 => h9) rfl dX4_drain_28 ?_
      have hP : va_P G vwCl (((xoT xo h hp hh sl) ++ (paT ca hp ap (g, nI np))) ++ (((hiT ca hh ka (nI n) rf) ++ ((stT ca kj bj T) ++ ((stT ca h a S) ++ O))) ++ Z)) H := hP
      have hD : va_D A (((xoT xo h hp hh sl) ++ (paT ca hp ap (g, nI np))) ++ (((hiT ca hh ka (nI n) rf) ++ ((stT ca kj bj T) ++ ((stT ca h a S) ++ O))) ++ Z)) := hD
      refine goV (va_runV (As := [.ref h]) (rest := []) ⟨hx, hb, hml, hown, hts⟩ (CtV.use (c_X0_record l G ca hh ka n rf kj bj T h a S O hn6 hkj hob) H.size) (cwV 1 hts gX4_drain_X0_record rfl rfl rfl (by decide +kernel) ⟨Nat.le_of_ble_eq_true rfl, Nat.le_of_ble_eq_true rfl⟩) (pcW_V hev (P_left (P_right hP)) (D_left (D_right hD)) (q0 := 0) rfl rfl rfl) rfl rfl hl.1 rfl (lv_room (Nat.le_of_ble_eq_true rfl)) dX4_drain_31 ⟨Nat.zero_le _, Nat.zero_le _⟩) hP hD hS hA (app_F hiF (app_F stF (app_F stF rfl))) (fun H locs hP hD hS => ?_)
      have hP : va_P G vwCl ((xoT xo h hp hh sl) ++ ((paT ca hp ap (g, nI np)) ++ ((hiT ca hh ka (nI (recN n)) (recR n rf)) ++ ((stT ca kj bj S) ++ ((stT ca h a S) ++ (O ++ Z)))))) H := hP
      have hD : va_D A ((xoT xo h hp hh sl) ++ ((paT ca hp ap (g, nI np)) ++ ((hiT ca hh ka (nI (recN n)) (recR n rf)) ++ ((stT ca kj bj S) ++ ((stT ca h a S) ++ (O ++ Z)))))) := hD
      refine lv_aload_n hx hb dX4_drain_34 rfl (lv_at hl 0 rfl) ?_
      refine va_get (D := G) (ci := 4) (v := .ref h) (C := RX4) (T := TX4) (N := 4) hx hb hts in_wsX40 hown hev.1 hP 0 rfl rfl 0 (by decide) (hts (.fieldLink RX4 10 "PuddleMinistries" "street" "LPuddleMinistries$Street;") (List.mem_of_getElem? (i := 1) rfl)) (fun _ h9 => h9) rfl dX4_drain_35 ?_
      refine va_get (D := G) (ci := 3) (v := .ref (a 2)) (C := RX3) (T := TX3) (N := 15) hx hb hts in_wsX30 hown hev.1 hP 15 rfl rfl 2 (by decide) (hts (.fieldLink RX4 65 "PuddleMinistries$Street" "waters" "[I") (List.mem_of_getElem? (i := 3) rfl)) (fun _ h9 => h9) rfl dX4_drain_38 ?_
      refine lv_iload_n hx hb dX4_drain_41 rfl (lv_at hl 1 rfl) ?_
      refine b_iald hx hb hev.1 hP 18 rfl rfl (j := p) (by omega) (by decide) dX4_drain_42 ?_
      refine lv_istore_n (lv' := [(2, .int ((s_wa S) p)), (0, .ref xo), (1, .int (nI p))]) hx hb dX4_drain_43 rfl hl (by decide) rfl (fun ls hl => ?_)
      refine lv_aload_n hx hb dX4_drain_44 rfl (lv_at hl 1 rfl) ?_
      refine va_get (D := G) (ci := 4) (v := .ref h) (C := RX4) (T := TX4) (N := 4) hx hb hts in_wsX40 hown hev.1 hP 0 rfl rfl 0 (by decide) (hts (.fieldLink RX4 10 "PuddleMinistries" "street" "LPuddleMinistries$Street;") (List.mem_of_getElem? (i := 1) rfl)) (fun _ h9 => h9) rfl dX4_drain_45 ?_
      refine lv_iload_n hx hb dX4_drain_48 rfl (lv_at hl 2 rfl) ?_
      refine lv_iconst (v := 0) hx hb dX4_drain_49 (by decide) ?_
      have hP : va_P G vwCl (((xoT xo h hp hh sl) ++ ((paT ca hp ap (g, nI np)) ++ ((hiT ca hh ka (nI (recN n)) (recR n rf)) ++ (stT ca kj bj S)))) ++ ((stT ca h a S) ++ (O ++ Z))) H := hP
      have hD : va_D A (((xoT xo h hp hh sl) ++ ((paT ca hp ap (g, nI np)) ++ ((hiT ca hh ka (nI (recN n)) (recR n rf)) ++ (stT ca kj bj S)))) ++ ((stT ca h a S) ++ (O ++ Z))) := hD
      refine goV (va_runV (As := [.int (nI p), .int 0]) (rest := []) ⟨hx, hb, hml, hown, hts⟩ (CtV.use (c_X3_drainDownTo l G ca h a S p 0 (by omega)) H.size) (cwV 2 hts gX4_drain_X3_drainDownTo rfl rfl rfl (by decide +kernel) ⟨Nat.le_of_ble_eq_true rfl, Nat.le_of_ble_eq_true rfl⟩) (pcW_V hev (P_left (P_right hP)) (D_left (D_right hD)) (q0 := 0) rfl rfl rfl) rfl rfl hl.1 rfl (lv_room (Nat.le_of_ble_eq_true rfl)) dX4_drain_50 ⟨Nat.zero_le _, Nat.zero_le _⟩) hP hD hS hA stF (fun H locs hP hD hS => ?_)
      have hP : va_P G vwCl ((xoT xo h hp hh sl) ++ ((paT ca hp ap (g, nI np)) ++ ((hiT ca hh ka (nI (recN n)) (recR n rf)) ++ ((stT ca kj bj S) ++ ((stT ca h a (s_se S, s_br S, dnWa ((s_wa S)) p 0, s_cr S, s_sh S, s_ow S, s_pa S, s_cb S, s_pd S, s_fz S, s_dk S, s_dy S, s_fe S, s_dr S, dnDn ((s_wa S)) ((s_dn S)) p 0)) ++ (O ++ Z)))))) H := hP
      have hD : va_D A ((xoT xo h hp hh sl) ++ ((paT ca hp ap (g, nI np)) ++ ((hiT ca hh ka (nI (recN n)) (recR n rf)) ++ ((stT ca kj bj S) ++ ((stT ca h a (s_se S, s_br S, dnWa ((s_wa S)) p 0, s_cr S, s_sh S, s_ow S, s_pa S, s_cb S, s_pd S, s_fz S, s_dk S, s_dy S, s_fe S, s_dr S, dnDn ((s_wa S)) ((s_dn S)) p 0)) ++ (O ++ Z)))))) := hD
      refine lv_aload_n hx hb dX4_drain_53 rfl (lv_at hl 1 rfl) ?_
      refine va_get (D := G) (ci := 4) (v := .ref h) (C := RX4) (T := TX4) (N := 4) hx hb hts in_wsX40 hown hev.1 hP 0 rfl rfl 0 (by decide) (hts (.fieldLink RX4 10 "PuddleMinistries" "street" "LPuddleMinistries$Street;") (List.mem_of_getElem? (i := 1) rfl)) (fun _ h9 => h9) rfl dX4_drain_54 ?_
      refine lv_iload_n hx hb dX4_drain_57 rfl (lv_at hl 2 rfl) ?_
      have hP : va_P G vwCl (((xoT xo h hp hh sl) ++ ((paT ca hp ap (g, nI np)) ++ ((hiT ca hh ka (nI (recN n)) (recR n rf)) ++ (stT ca kj bj S)))) ++ ((stT ca h a (s_se S, s_br S, dnWa ((s_wa S)) p 0, s_cr S, s_sh S, s_ow S, s_pa S, s_cb S, s_pd S, s_fz S, s_dk S, s_dy S, s_fe S, s_dr S, dnDn ((s_wa S)) ((s_dn S)) p 0)) ++ (O ++ Z))) H := hP
      have hD : va_D A (((xoT xo h hp hh sl) ++ ((paT ca hp ap (g, nI np)) ++ ((hiT ca hh ka (nI (recN n)) (recR n rf)) ++ (stT ca kj bj S)))) ++ ((stT ca h a (s_se S, s_br S, dnWa ((s_wa S)) p 0, s_cr S, s_sh S, s_ow S, s_pa S, s_cb S, s_pd S, s_fz S, s_dk S, s_dy S, s_fe S, s_dr S, dnDn ((s_wa S)) ((s_dn S)) p 0)) ++ (O ++ Z))) := hD
      refine goV (va_runV (As := [.int (nI p)]) (rest := []) ⟨hx, hb, hml, hown, hts⟩ (CtV.use (c_X3_thaw l G ca h a (s_se S, s_br S, dnWa ((s_wa S)) p 0, s_cr S, s_sh S, s_ow S, s_pa S, s_cb S, s_pd S, s_fz S, s_dk S, s_dy S, s_fe S, s_dr S, dnDn ((s_wa S)) ((s_dn S)) p 0) p) H.size) (cwV 1 hts gX4_drain_X3_thaw rfl rfl rfl (by decide +kernel) ⟨Nat.le_of_ble_eq_true rfl, Nat.le_of_ble_eq_true rfl⟩) (pcW_V hev (P_left (P_right hP)) (D_left (D_right hD)) (q0 := 0) rfl rfl rfl) rfl rfl hl.1 rfl (lv_room (Nat.le_of_ble_eq_true rfl)) dX4_drain_58 ⟨Nat.zero_le _, Nat.zero_le _⟩) hP hD hS hA stF (fun H locs hP hD hS => ?_)
      have hP : va_P G vwCl ((xoT xo h hp hh sl) ++ ((paT ca hp ap (g, nI np)) ++ ((hiT ca hh ka (nI (recN n)) (recR n rf)) ++ ((stT ca kj bj S) ++ ((stT ca h a (u_fz (s_se S, s_br S, dnWa ((s_wa S)) p 0, s_cr S, s_sh S, s_ow S, s_pa S, s_cb S, s_pd S, s_fz S, s_dk S, s_dy S, s_fe S, s_dr S, dnDn ((s_wa S)) ((s_dn S)) p 0) (thaw1 ((s_fz S)) p))) ++ (O ++ Z)))))) H := hP
      have hD : va_D A ((xoT xo h hp hh sl) ++ ((paT ca hp ap (g, nI np)) ++ ((hiT ca hh ka (nI (recN n)) (recR n rf)) ++ ((stT ca kj bj S) ++ ((stT ca h a (u_fz (s_se S, s_br S, dnWa ((s_wa S)) p 0, s_cr S, s_sh S, s_ow S, s_pa S, s_cb S, s_pd S, s_fz S, s_dk S, s_dy S, s_fe S, s_dr S, dnDn ((s_wa S)) ((s_dn S)) p 0) (thaw1 ((s_fz S)) p))) ++ (O ++ Z)))))) := hD
      refine lv_iload_n hx hb dX4_drain_61 rfl (lv_at hl 0 rfl) ?_
      refine lv_eqi (y := s_wa S p) rfl ?_
      exact hret _ _ _ _ hP hS dX4_drain_62
    · skip
      exact absurd hd c_2
  · skip
    exact absurd c_1 (by decide)
set_option maxHeartbeats 4000000 in
set_option maxRecDepth 100000 in
theorem c_X4_shoes_out (l : Launch) (G : va_G) (ca : Nat → ClassId) (xo sl : Nat) (hp ap : Nat) (g : Nat → Int32) (np : Nat) (hh ka : Nat) (n : Nat) (rf : Nat → Option Nat) (kj : Nat) (bj : Nat → Nat) (T : SS) (h : Nat) (a : Nat → Nat) (S : SS) (O : va_W) (Z : va_W) (x : Int32) (v : Int32) (hx0 : x < 0 ∨ nI 6 ≤ x) : CtI l yX4_shoes wsX4_shoes ({ frames := 1, cells := 0, slots := 0, locals := 20 }) [.ref xo, .int x, .int v] G ca ((xoT xo h hp hh sl) ++ ((paT ca hp ap (g, nI np)) ++ ((hiT ca hh ka (nI n) rf) ++ ((stT ca kj bj T) ++ ((stT ca h a S) ++ (O ++ Z)))))) ((xoT xo h hp hh sl) ++ ((paT ca hp ap (g, nI np)) ++ ((hiT ca hh ka (nI n) rf) ++ ((stT ca kj bj T) ++ ((stT ca h a S) ++ (O ++ Z)))))) (-1) := by
  refine CtI.ofW (cc := cX4_shoes) (maxL := 4) (rt := .int) (by decide) rfl (Nat.le_of_ble_eq_true rfl) rfl ?_
  intro pr en s m be me c A ls Q H hx hb hml hts hown hev hP hD hA hS hl hret
  have hown : s.vm.findClass RX4 = some m.cls := hown
  have hl : lv_has ls 4 [(0, .ref xo), (1, .int x), (2, .int v)] := hl
  have in_wsX40 : ∀ w ∈ wsX40, w ∈ wsX4_shoes := fun _ h => List.mem_cons_of_mem _ (List.mem_append_left _ (List.mem_append_left _ (List.mem_append_right _ h)))
  have in_wsX30 : ∀ w ∈ wsX30, w ∈ wsX4_shoes := fun _ h => List.mem_cons_of_mem _ (List.mem_append_left _ (List.mem_append_right _ h))
  have in_wsX00 : ∀ w ∈ wsX00, w ∈ wsX4_shoes := fun _ h => List.mem_cons_of_mem _ (List.mem_append_right _ h)
  refine lv_iload_n hx hb dX4_shoes_0 rfl (lv_at hl 1 rfl) ?_
  refine goI0 (va_runS (As := [.int x]) (rest := []) ⟨hx, hb, hml, hown, hts⟩ (CtI.use (c_X4_isWalker_out l G ca x hx0) H.size) (va_cwS 1 hts gX4_shoes_X4_isWalker rfl rfl rfl (by decide +kernel) ⟨Nat.le_of_ble_eq_true rfl, Nat.le_of_ble_eq_true rfl⟩) (pcW_S hev P_nil (D_nil (A := A))) rfl rfl hl.1 rfl (lv_room (Nat.le_of_ble_eq_true rfl)) dX4_shoes_1 ⟨Nat.zero_le _, Nat.zero_le _⟩) hP hS hA (fun H locs hP hS => ?_)
  refine lv_if_ne (tgt := 9) hx hb dX4_shoes_4 (by decide) (fun c_1 => ?_) (fun c_1 => ?_)
  · skip
    exact absurd (by decide) c_1
  · skip
    refine lv_iconst (v := (-1)) hx hb dX4_shoes_7 (by decide) ?_
    exact hret _ _ _ _ hP hS dX4_shoes_8
set_option maxHeartbeats 4000000 in
set_option maxRecDepth 100000 in
theorem c_X4_shoes_bad (l : Launch) (G : va_G) (ca : Nat → ClassId) (xo sl : Nat) (hp ap : Nat) (g : Nat → Int32) (np : Nat) (hh ka : Nat) (n : Nat) (rf : Nat → Option Nat) (kj : Nat) (bj : Nat → Nat) (T : SS) (h : Nat) (a : Nat → Nat) (S : SS) (O : va_W) (Z : va_W) (w : Nat) (v : Int32) (hw : w < 6) (hv : v < 0 ∨ ¬ v ≤ 3) : CtI l yX4_shoes wsX4_shoes ({ frames := 1, cells := 0, slots := 0, locals := 20 }) [.ref xo, .int (nI w), .int v] G ca ((xoT xo h hp hh sl) ++ ((paT ca hp ap (g, nI np)) ++ ((hiT ca hh ka (nI n) rf) ++ ((stT ca kj bj T) ++ ((stT ca h a S) ++ (O ++ Z)))))) ((xoT xo h hp hh sl) ++ ((paT ca hp ap (g, nI np)) ++ ((hiT ca hh ka (nI n) rf) ++ ((stT ca kj bj T) ++ ((stT ca h a S) ++ (O ++ Z)))))) (-2) := by
  refine CtI.ofW (cc := cX4_shoes) (maxL := 4) (rt := .int) (by decide) rfl (Nat.le_of_ble_eq_true rfl) rfl ?_
  intro pr en s m be me c A ls Q H hx hb hml hts hown hev hP hD hA hS hl hret
  have hown : s.vm.findClass RX4 = some m.cls := hown
  have hl : lv_has ls 4 [(0, .ref xo), (1, .int (nI w)), (2, .int v)] := hl
  have in_wsX40 : ∀ w ∈ wsX40, w ∈ wsX4_shoes := fun _ h => List.mem_cons_of_mem _ (List.mem_append_left _ (List.mem_append_left _ (List.mem_append_right _ h)))
  have in_wsX30 : ∀ w ∈ wsX30, w ∈ wsX4_shoes := fun _ h => List.mem_cons_of_mem _ (List.mem_append_left _ (List.mem_append_right _ h))
  have in_wsX00 : ∀ w ∈ wsX00, w ∈ wsX4_shoes := fun _ h => List.mem_cons_of_mem _ (List.mem_append_right _ h)
  refine lv_iload_n hx hb dX4_shoes_0 rfl (lv_at hl 1 rfl) ?_
  refine goI0 (va_runS (As := [.int (nI w)]) (rest := []) ⟨hx, hb, hml, hown, hts⟩ (CtI.use (c_X4_isWalker_in l G ca w (by omega)) H.size) (va_cwS 1 hts gX4_shoes_X4_isWalker rfl rfl rfl (by decide +kernel) ⟨Nat.le_of_ble_eq_true rfl, Nat.le_of_ble_eq_true rfl⟩) (pcW_S hev P_nil (D_nil (A := A))) rfl rfl hl.1 rfl (lv_room (Nat.le_of_ble_eq_true rfl)) dX4_shoes_1 ⟨Nat.zero_le _, Nat.zero_le _⟩) hP hS hA (fun H locs hP hS => ?_)
  refine lv_if_ne (tgt := 9) hx hb dX4_shoes_4 (by decide) (fun c_1 => ?_) (fun c_1 => ?_)
  · skip
    refine lv_iload_n hx hb dX4_shoes_9 rfl (lv_at hl 2 rfl) ?_
    refine lv_if_lt (tgt := 18) hx hb dX4_shoes_10 (by decide) (fun c_2 => ?_) (fun c_2 => ?_)
    · skip
      refine lv_bipush (v := (-2)) hx hb dX4_shoes_18 (by decide) ?_
      exact hret _ _ _ _ hP hS dX4_shoes_20
    · skip
      refine lv_iload_n hx hb dX4_shoes_13 rfl (lv_at hl 2 rfl) ?_
      refine lv_iconst (v := 3) hx hb dX4_shoes_14 (by decide) ?_
      refine lv_icmp_le (tgt := 21) hx hb dX4_shoes_15 (by decide) (fun c_3 => ?_) (fun c_3 => ?_)
      · skip
        exact hv.elim (fun q => absurd q (by assumption)) (fun q => absurd c_3 q)
      · skip
        refine lv_bipush (v := (-2)) hx hb dX4_shoes_18 (by decide) ?_
        exact hret _ _ _ _ hP hS dX4_shoes_20
  · skip
    exact absurd c_1 (by decide)
set_option maxHeartbeats 4000000 in
set_option maxRecDepth 100000 in
theorem c_X4_shoes_ok (l : Launch) (G : va_G) (ca : Nat → ClassId) (xo sl : Nat) (hp ap : Nat) (g : Nat → Int32) (np : Nat) (hh ka : Nat) (n : Nat) (rf : Nat → Option Nat) (kj : Nat) (bj : Nat → Nat) (T : SS) (h : Nat) (a : Nat → Nat) (S : SS) (O : va_W) (Z : va_W) (w : Nat) (v : Int32) (hn6 : n ≤ 6) (hkj : recT n rf = some kj) (hob : ∀ i, i < 6 → ∃ (v x : Nat) (y : List Value), rf i = some v ∧ (hiT ca hh ka (nI n) rf ++ (stT ca kj bj T ++ (stT ca h a S ++ O)))[x]? = some (v, .inr (3, y))) (hw : w < 6) (hv1 : ¬ v < 0) (hv2 : v ≤ 3) : CtI l yX4_shoes wsX4_shoes ({ frames := 3, cells := 0, slots := 0, locals := 64 }) [.ref xo, .int (nI w), .int v] G ca ((xoT xo h hp hh sl) ++ ((paT ca hp ap (g, nI np)) ++ ((hiT ca hh ka (nI n) rf) ++ ((stT ca kj bj T) ++ ((stT ca h a S) ++ (O ++ Z)))))) ((xoT xo h hp hh sl) ++ ((paT ca hp ap (g, nI np)) ++ ((hiT ca hh ka (nI (recN n)) (recR n rf)) ++ ((stT ca kj bj S) ++ ((stT ca h a (s_se S, s_br S, s_wa S, s_cr S, upd (s_sh S) w v, s_ow S, s_pa S, s_cb S, s_pd S, s_fz S, s_dk S, s_dy S, s_fe S, s_dr S, s_dn S)) ++ (O ++ Z)))))) (s_sh S w) := by
  refine CtI.ofW (cc := cX4_shoes) (maxL := 4) (rt := .int) (by decide) rfl (Nat.le_of_ble_eq_true rfl) rfl ?_
  intro pr en s m be me c A ls Q H hx hb hml hts hown hev hP hD hA hS hl hret
  have hown : s.vm.findClass RX4 = some m.cls := hown
  have hl : lv_has ls 4 [(0, .ref xo), (1, .int (nI w)), (2, .int v)] := hl
  have in_wsX40 : ∀ w ∈ wsX40, w ∈ wsX4_shoes := fun _ h => List.mem_cons_of_mem _ (List.mem_append_left _ (List.mem_append_left _ (List.mem_append_right _ h)))
  have in_wsX30 : ∀ w ∈ wsX30, w ∈ wsX4_shoes := fun _ h => List.mem_cons_of_mem _ (List.mem_append_left _ (List.mem_append_right _ h))
  have in_wsX00 : ∀ w ∈ wsX00, w ∈ wsX4_shoes := fun _ h => List.mem_cons_of_mem _ (List.mem_append_right _ h)
  refine lv_iload_n hx hb dX4_shoes_0 rfl (lv_at hl 1 rfl) ?_
  refine goI0 (va_runS (As := [.int (nI w)]) (rest := []) ⟨hx, hb, hml, hown, hts⟩ (CtI.use (c_X4_isWalker_in l G ca w (by omega)) H.size) (va_cwS 1 hts gX4_shoes_X4_isWalker rfl rfl rfl (by decide +kernel) ⟨Nat.le_of_ble_eq_true rfl, Nat.le_of_ble_eq_true rfl⟩) (pcW_S hev P_nil (D_nil (A := A))) rfl rfl hl.1 rfl (lv_room (Nat.le_of_ble_eq_true rfl)) dX4_shoes_1 ⟨Nat.zero_le _, Nat.zero_le _⟩) hP hS hA (fun H locs hP hS => ?_)
  refine lv_if_ne (tgt := 9) hx hb dX4_shoes_4 (by decide) (fun c_1 => ?_) (fun c_1 => ?_)
  · skip
    refine lv_iload_n hx hb dX4_shoes_9 rfl (lv_at hl 2 rfl) ?_
    refine lv_if_lt (tgt := 18) hx hb dX4_shoes_10 (by decide) (fun c_2 => ?_) (fun c_2 => ?_)
    · skip
      exact absurd c_2 hv1
    · skip
      refine lv_iload_n hx hb dX4_shoes_13 rfl (lv_at hl 2 rfl) ?_
      refine lv_iconst (v := 3) hx hb dX4_shoes_14 (by decide) ?_
      refine lv_icmp_le (tgt := 21) hx hb dX4_shoes_15 (by decide) (fun c_3 => ?_) (fun c_3 => ?_)
      · skip
        refine lv_aload_n hx hb dX4_shoes_21 rfl (lv_at hl 0 rfl) ?_
        refine va_get (D := G) (ci := 4) (v := .ref hh) (C := RX4) (T := TX4) (N := 4) hx hb hts in_wsX40 hown hev.1 hP 0 rfl rfl 2 (by decide) (hts (.fieldLink RX4 26 "PuddleMinistries" "history" "LPuddleMinistries$History;") (List.mem_of_getElem? (i := 1) rfl)) (fun _ h9 => h9) rfl dX4_shoes_22 ?_
        refine lv_aload_n hx hb dX4_shoes_25 rfl (lv_at hl 0 rfl) ?_
        refine va_get (D := G) (ci := 4) (v := .ref h) (C := RX4) (T := TX4) (N := 4) hx hb hts in_wsX40 hown hev.1 hP 0 rfl rfl 0 (by decide) (hts (.fieldLink RX4 10 "PuddleMinistries" "street" "LPuddleMinistries$Street;") (List.mem_of_getElem? (i := 2) rfl)) (fun _ h9 => h9) rfl dX4_shoes_26 ?_
        have hP : va_P G vwCl (((xoT xo h hp hh sl) ++ (paT ca hp ap (g, nI np))) ++ (((hiT ca hh ka (nI n) rf) ++ ((stT ca kj bj T) ++ ((stT ca h a S) ++ O))) ++ Z)) H := hP
        have hD : va_D A (((xoT xo h hp hh sl) ++ (paT ca hp ap (g, nI np))) ++ (((hiT ca hh ka (nI n) rf) ++ ((stT ca kj bj T) ++ ((stT ca h a S) ++ O))) ++ Z)) := hD
        refine goV (va_runV (As := [.ref h]) (rest := []) ⟨hx, hb, hml, hown, hts⟩ (CtV.use (c_X0_record l G ca hh ka n rf kj bj T h a S O hn6 hkj hob) H.size) (cwV 1 hts gX4_shoes_X0_record rfl rfl rfl (by decide +kernel) ⟨Nat.le_of_ble_eq_true rfl, Nat.le_of_ble_eq_true rfl⟩) (pcW_V hev (P_left (P_right hP)) (D_left (D_right hD)) (q0 := 0) rfl rfl rfl) rfl rfl hl.1 rfl (lv_room (Nat.le_of_ble_eq_true rfl)) dX4_shoes_29 ⟨Nat.zero_le _, Nat.zero_le _⟩) hP hD hS hA (app_F hiF (app_F stF (app_F stF rfl))) (fun H locs hP hD hS => ?_)
        have hP : va_P G vwCl ((xoT xo h hp hh sl) ++ ((paT ca hp ap (g, nI np)) ++ ((hiT ca hh ka (nI (recN n)) (recR n rf)) ++ ((stT ca kj bj S) ++ ((stT ca h a S) ++ (O ++ Z)))))) H := hP
        have hD : va_D A ((xoT xo h hp hh sl) ++ ((paT ca hp ap (g, nI np)) ++ ((hiT ca hh ka (nI (recN n)) (recR n rf)) ++ ((stT ca kj bj S) ++ ((stT ca h a S) ++ (O ++ Z)))))) := hD
        refine lv_aload_n hx hb dX4_shoes_32 rfl (lv_at hl 0 rfl) ?_
        refine va_get (D := G) (ci := 4) (v := .ref h) (C := RX4) (T := TX4) (N := 4) hx hb hts in_wsX40 hown hev.1 hP 0 rfl rfl 0 (by decide) (hts (.fieldLink RX4 10 "PuddleMinistries" "street" "LPuddleMinistries$Street;") (List.mem_of_getElem? (i := 2) rfl)) (fun _ h9 => h9) rfl dX4_shoes_33 ?_
        refine va_get (D := G) (ci := 3) (v := .ref (a 4)) (C := RX3) (T := TX3) (N := 15) hx hb hts in_wsX30 hown hev.1 hP 15 rfl rfl 4 (by decide) (hts (.fieldLink RX4 75 "PuddleMinistries$Street" "shoesOf" "[I") (List.mem_of_getElem? (i := 3) rfl)) (fun _ h9 => h9) rfl dX4_shoes_36 ?_
        refine lv_iload_n hx hb dX4_shoes_39 rfl (lv_at hl 1 rfl) ?_
        refine b_iald hx hb hev.1 hP 20 rfl rfl (j := w) (by omega) (by decide) dX4_shoes_40 ?_
        refine lv_istore_n (lv' := [(3, .int ((s_sh S) w)), (0, .ref xo), (1, .int (nI w)), (2, .int v)]) hx hb dX4_shoes_41 rfl hl (by decide) rfl (fun ls hl => ?_)
        refine lv_aload_n hx hb dX4_shoes_42 rfl (lv_at hl 1 rfl) ?_
        refine va_get (D := G) (ci := 4) (v := .ref h) (C := RX4) (T := TX4) (N := 4) hx hb hts in_wsX40 hown hev.1 hP 0 rfl rfl 0 (by decide) (hts (.fieldLink RX4 10 "PuddleMinistries" "street" "LPuddleMinistries$Street;") (List.mem_of_getElem? (i := 2) rfl)) (fun _ h9 => h9) rfl dX4_shoes_43 ?_
        refine va_get (D := G) (ci := 3) (v := .ref (a 4)) (C := RX3) (T := TX3) (N := 15) hx hb hts in_wsX30 hown hev.1 hP 15 rfl rfl 4 (by decide) (hts (.fieldLink RX4 75 "PuddleMinistries$Street" "shoesOf" "[I") (List.mem_of_getElem? (i := 3) rfl)) (fun _ h9 => h9) rfl dX4_shoes_46 ?_
        refine lv_iload_n hx hb dX4_shoes_49 rfl (lv_at hl 2 rfl) ?_
        refine lv_iload_n hx hb dX4_shoes_50 rfl (lv_at hl 3 rfl) ?_
        refine b_iast hx hb hev.1 hP hD hS 20 rfl rfl (j := w) (by omega) (by decide) dX4_shoes_51 (fun H locs hP hD hS => ?_)
        have hP : va_P G vwCl ((xoT xo h hp hh sl) ++ ((paT ca hp ap (g, nI np)) ++ ((hiT ca hh ka (nI (recN n)) (recR n rf)) ++ ((stT ca kj bj S) ++ ((stT ca h a (s_se S, s_br S, s_wa S, s_cr S, upd (s_sh S) w v, s_ow S, s_pa S, s_cb S, s_pd S, s_fz S, s_dk S, s_dy S, s_fe S, s_dr S, s_dn S)) ++ (O ++ Z)))))) H := hP
        have hD : va_D A ((xoT xo h hp hh sl) ++ ((paT ca hp ap (g, nI np)) ++ ((hiT ca hh ka (nI (recN n)) (recR n rf)) ++ ((stT ca kj bj S) ++ ((stT ca h a (s_se S, s_br S, s_wa S, s_cr S, upd (s_sh S) w v, s_ow S, s_pa S, s_cb S, s_pd S, s_fz S, s_dk S, s_dy S, s_fe S, s_dr S, s_dn S)) ++ (O ++ Z)))))) := hD
        refine lv_iload_n hx hb dX4_shoes_52 rfl (lv_at hl 0 rfl) ?_
        refine lv_eqi (y := s_sh S w) rfl ?_
        exact hret _ _ _ _ hP hS dX4_shoes_53
      · skip
        exact absurd hv2 c_3
  · skip
    exact absurd c_1 (by decide)
set_option maxHeartbeats 4000000 in
set_option maxRecDepth 100000 in
theorem c_X4_permit_outw (l : Launch) (G : va_G) (ca : Nat → ClassId) (xo sl : Nat) (hp ap : Nat) (g : Nat → Int32) (np : Nat) (hh ka : Nat) (n : Nat) (rf : Nat → Option Nat) (kj : Nat) (bj : Nat → Nat) (T : SS) (h : Nat) (a : Nat → Nat) (S : SS) (O : va_W) (Z : va_W) (x : Int32) (v : Int32) (hx0 : x < 0 ∨ nI 6 ≤ x) : CtI l yX4_permit wsX4_permit ({ frames := 1, cells := 0, slots := 0, locals := 20 }) [.ref xo, .int x, .int v] G ca ((xoT xo h hp hh sl) ++ ((paT ca hp ap (g, nI np)) ++ ((hiT ca hh ka (nI n) rf) ++ ((stT ca kj bj T) ++ ((stT ca h a S) ++ (O ++ Z)))))) ((xoT xo h hp hh sl) ++ ((paT ca hp ap (g, nI np)) ++ ((hiT ca hh ka (nI n) rf) ++ ((stT ca kj bj T) ++ ((stT ca h a S) ++ (O ++ Z)))))) (-1) := by
  refine CtI.ofW (cc := cX4_permit) (maxL := 3) (rt := .int) (by decide) rfl (Nat.le_of_ble_eq_true rfl) rfl ?_
  intro pr en s m be me c A ls Q H hx hb hml hts hown hev hP hD hA hS hl hret
  have hown : s.vm.findClass RX4 = some m.cls := hown
  have hl : lv_has ls 3 [(0, .ref xo), (1, .int x), (2, .int v)] := hl
  have in_wsX40 : ∀ w ∈ wsX40, w ∈ wsX4_permit := fun _ h => List.mem_cons_of_mem _ (List.mem_append_left _ (List.mem_append_left _ (List.mem_append_right _ h)))
  have in_wsX30 : ∀ w ∈ wsX30, w ∈ wsX4_permit := fun _ h => List.mem_cons_of_mem _ (List.mem_append_left _ (List.mem_append_right _ h))
  have in_wsX00 : ∀ w ∈ wsX00, w ∈ wsX4_permit := fun _ h => List.mem_cons_of_mem _ (List.mem_append_right _ h)
  refine lv_iload_n hx hb dX4_permit_0 rfl (lv_at hl 1 rfl) ?_
  refine goI0 (va_runS (As := [.int x]) (rest := []) ⟨hx, hb, hml, hown, hts⟩ (CtI.use (c_X4_isWalker_out l G ca x hx0) H.size) (va_cwS 1 hts gX4_permit_X4_isWalker rfl rfl rfl (by decide +kernel) ⟨Nat.le_of_ble_eq_true rfl, Nat.le_of_ble_eq_true rfl⟩) (pcW_S hev P_nil (D_nil (A := A))) rfl rfl hl.1 rfl (lv_room (Nat.le_of_ble_eq_true rfl)) dX4_permit_1 ⟨Nat.zero_le _, Nat.zero_le _⟩) hP hS hA (fun H locs hP hS => ?_)
  refine lv_if_eq (tgt := 14) hx hb dX4_permit_4 (by decide) (fun c_1 => ?_) (fun c_1 => ?_)
  · skip
    refine lv_iconst (v := (-1)) hx hb dX4_permit_14 (by decide) ?_
    exact hret _ _ _ _ hP hS dX4_permit_15
  · skip
    exact absurd (by decide) c_1
set_option maxHeartbeats 4000000 in
set_option maxRecDepth 100000 in
theorem c_X4_permit_outp (l : Launch) (G : va_G) (ca : Nat → ClassId) (xo sl : Nat) (hp ap : Nat) (g : Nat → Int32) (np : Nat) (hh ka : Nat) (n : Nat) (rf : Nat → Option Nat) (kj : Nat) (bj : Nat → Nat) (T : SS) (h : Nat) (a : Nat → Nat) (S : SS) (O : va_W) (Z : va_W) (w : Nat) (x : Int32) (hw : w < 6) (hx0 : x < 0 ∨ nI 12 ≤ x) : CtI l yX4_permit wsX4_permit ({ frames := 1, cells := 0, slots := 0, locals := 20 }) [.ref xo, .int (nI w), .int x] G ca ((xoT xo h hp hh sl) ++ ((paT ca hp ap (g, nI np)) ++ ((hiT ca hh ka (nI n) rf) ++ ((stT ca kj bj T) ++ ((stT ca h a S) ++ (O ++ Z)))))) ((xoT xo h hp hh sl) ++ ((paT ca hp ap (g, nI np)) ++ ((hiT ca hh ka (nI n) rf) ++ ((stT ca kj bj T) ++ ((stT ca h a S) ++ (O ++ Z)))))) (-1) := by
  refine CtI.ofW (cc := cX4_permit) (maxL := 3) (rt := .int) (by decide) rfl (Nat.le_of_ble_eq_true rfl) rfl ?_
  intro pr en s m be me c A ls Q H hx hb hml hts hown hev hP hD hA hS hl hret
  have hown : s.vm.findClass RX4 = some m.cls := hown
  have hl : lv_has ls 3 [(0, .ref xo), (1, .int (nI w)), (2, .int x)] := hl
  have in_wsX40 : ∀ w ∈ wsX40, w ∈ wsX4_permit := fun _ h => List.mem_cons_of_mem _ (List.mem_append_left _ (List.mem_append_left _ (List.mem_append_right _ h)))
  have in_wsX30 : ∀ w ∈ wsX30, w ∈ wsX4_permit := fun _ h => List.mem_cons_of_mem _ (List.mem_append_left _ (List.mem_append_right _ h))
  have in_wsX00 : ∀ w ∈ wsX00, w ∈ wsX4_permit := fun _ h => List.mem_cons_of_mem _ (List.mem_append_right _ h)
  refine lv_iload_n hx hb dX4_permit_0 rfl (lv_at hl 1 rfl) ?_
  refine goI0 (va_runS (As := [.int (nI w)]) (rest := []) ⟨hx, hb, hml, hown, hts⟩ (CtI.use (c_X4_isWalker_in l G ca w (by omega)) H.size) (va_cwS 1 hts gX4_permit_X4_isWalker rfl rfl rfl (by decide +kernel) ⟨Nat.le_of_ble_eq_true rfl, Nat.le_of_ble_eq_true rfl⟩) (pcW_S hev P_nil (D_nil (A := A))) rfl rfl hl.1 rfl (lv_room (Nat.le_of_ble_eq_true rfl)) dX4_permit_1 ⟨Nat.zero_le _, Nat.zero_le _⟩) hP hS hA (fun H locs hP hS => ?_)
  refine lv_if_eq (tgt := 14) hx hb dX4_permit_4 (by decide) (fun c_1 => ?_) (fun c_1 => ?_)
  · skip
    exact absurd c_1 (by decide)
  · skip
    refine lv_iload_n hx hb dX4_permit_7 rfl (lv_at hl 2 rfl) ?_
    refine goI0 (va_runS (As := [.int x]) (rest := []) ⟨hx, hb, hml, hown, hts⟩ (CtI.use (c_X4_isPuddle_out l G ca x hx0) H.size) (va_cwS 1 hts gX4_permit_X4_isPuddle rfl rfl rfl (by decide +kernel) ⟨Nat.le_of_ble_eq_true rfl, Nat.le_of_ble_eq_true rfl⟩) (pcW_S hev P_nil (D_nil (A := A))) rfl rfl hl.1 rfl (lv_room (Nat.le_of_ble_eq_true rfl)) dX4_permit_8 ⟨Nat.zero_le _, Nat.zero_le _⟩) hP hS hA (fun H locs hP hS => ?_)
    refine lv_if_ne (tgt := 16) hx hb dX4_permit_11 (by decide) (fun c_2 => ?_) (fun c_2 => ?_)
    · skip
      exact absurd (by decide) c_2
    · skip
      refine lv_iconst (v := (-1)) hx hb dX4_permit_14 (by decide) ?_
      exact hret _ _ _ _ hP hS dX4_permit_15
set_option maxHeartbeats 4000000 in
set_option maxRecDepth 100000 in
theorem c_X4_permit_ducks (l : Launch) (G : va_G) (ca : Nat → ClassId) (xo sl : Nat) (hp ap : Nat) (g : Nat → Int32) (np : Nat) (hh ka : Nat) (n : Nat) (rf : Nat → Option Nat) (kj : Nat) (bj : Nat → Nat) (T : SS) (h : Nat) (a : Nat → Nat) (S : SS) (O : va_W) (Z : va_W) (w : Nat) (p : Nat) (hw : w < 6) (hp1 : p < 12) (hd : ¬ bt1 (s_dk S) p = 0) : CtI l yX4_permit wsX4_permit ({ frames := 2, cells := 0, slots := 0, locals := 42 }) [.ref xo, .int (nI w), .int (nI p)] G ca ((xoT xo h hp hh sl) ++ ((paT ca hp ap (g, nI np)) ++ ((hiT ca hh ka (nI n) rf) ++ ((stT ca kj bj T) ++ ((stT ca h a S) ++ (O ++ Z)))))) ((xoT xo h hp hh sl) ++ ((paT ca hp ap (g, nI np)) ++ ((hiT ca hh ka (nI n) rf) ++ ((stT ca kj bj T) ++ ((stT ca h a S) ++ (O ++ Z)))))) (-5) := by
  refine CtI.ofW (cc := cX4_permit) (maxL := 3) (rt := .int) (by decide) rfl (Nat.le_of_ble_eq_true rfl) rfl ?_
  intro pr en s m be me c A ls Q H hx hb hml hts hown hev hP hD hA hS hl hret
  have hown : s.vm.findClass RX4 = some m.cls := hown
  have hl : lv_has ls 3 [(0, .ref xo), (1, .int (nI w)), (2, .int (nI p))] := hl
  have in_wsX40 : ∀ w ∈ wsX40, w ∈ wsX4_permit := fun _ h => List.mem_cons_of_mem _ (List.mem_append_left _ (List.mem_append_left _ (List.mem_append_right _ h)))
  have in_wsX30 : ∀ w ∈ wsX30, w ∈ wsX4_permit := fun _ h => List.mem_cons_of_mem _ (List.mem_append_left _ (List.mem_append_right _ h))
  have in_wsX00 : ∀ w ∈ wsX00, w ∈ wsX4_permit := fun _ h => List.mem_cons_of_mem _ (List.mem_append_right _ h)
  refine lv_iload_n hx hb dX4_permit_0 rfl (lv_at hl 1 rfl) ?_
  refine goI0 (va_runS (As := [.int (nI w)]) (rest := []) ⟨hx, hb, hml, hown, hts⟩ (CtI.use (c_X4_isWalker_in l G ca w (by omega)) H.size) (va_cwS 1 hts gX4_permit_X4_isWalker rfl rfl rfl (by decide +kernel) ⟨Nat.le_of_ble_eq_true rfl, Nat.le_of_ble_eq_true rfl⟩) (pcW_S hev P_nil (D_nil (A := A))) rfl rfl hl.1 rfl (lv_room (Nat.le_of_ble_eq_true rfl)) dX4_permit_1 ⟨Nat.zero_le _, Nat.zero_le _⟩) hP hS hA (fun H locs hP hS => ?_)
  refine lv_if_eq (tgt := 14) hx hb dX4_permit_4 (by decide) (fun c_1 => ?_) (fun c_1 => ?_)
  · skip
    exact absurd c_1 (by decide)
  · skip
    refine lv_iload_n hx hb dX4_permit_7 rfl (lv_at hl 2 rfl) ?_
    refine goI0 (va_runS (As := [.int (nI p)]) (rest := []) ⟨hx, hb, hml, hown, hts⟩ (CtI.use (c_X4_isPuddle_in l G ca p (by omega)) H.size) (va_cwS 1 hts gX4_permit_X4_isPuddle rfl rfl rfl (by decide +kernel) ⟨Nat.le_of_ble_eq_true rfl, Nat.le_of_ble_eq_true rfl⟩) (pcW_S hev P_nil (D_nil (A := A))) rfl rfl hl.1 rfl (lv_room (Nat.le_of_ble_eq_true rfl)) dX4_permit_8 ⟨Nat.zero_le _, Nat.zero_le _⟩) hP hS hA (fun H locs hP hS => ?_)
    refine lv_if_ne (tgt := 16) hx hb dX4_permit_11 (by decide) (fun c_2 => ?_) (fun c_2 => ?_)
    · skip
      refine lv_aload_n hx hb dX4_permit_16 rfl (lv_at hl 0 rfl) ?_
      refine va_get (D := G) (ci := 4) (v := .ref h) (C := RX4) (T := TX4) (N := 4) hx hb hts in_wsX40 hown hev.1 hP 0 rfl rfl 0 (by decide) (hts (.fieldLink RX4 10 "PuddleMinistries" "street" "LPuddleMinistries$Street;") (List.mem_of_getElem? (i := 1) rfl)) (fun _ h9 => h9) rfl dX4_permit_17 ?_
      refine lv_iload_n hx hb dX4_permit_20 rfl (lv_at hl 2 rfl) ?_
      have hP : va_P G vwCl (((xoT xo h hp hh sl) ++ ((paT ca hp ap (g, nI np)) ++ ((hiT ca hh ka (nI n) rf) ++ (stT ca kj bj T)))) ++ ((stT ca h a S) ++ (O ++ Z))) H := hP
      have hD : va_D A (((xoT xo h hp hh sl) ++ ((paT ca hp ap (g, nI np)) ++ ((hiT ca hh ka (nI n) rf) ++ (stT ca kj bj T)))) ++ ((stT ca h a S) ++ (O ++ Z))) := hD
      refine goI (va_runV (As := [.int (nI p)]) (rest := []) ⟨hx, hb, hml, hown, hts⟩ (CtI.use (c_X3_hasDucks l G ca h a S p) H.size) (cwV 1 hts gX4_permit_X3_hasDucks rfl rfl rfl (by decide +kernel) ⟨Nat.le_of_ble_eq_true rfl, Nat.le_of_ble_eq_true rfl⟩) (pcW_V hev (P_left (P_right hP)) (D_left (D_right hD)) (q0 := 0) rfl rfl rfl) rfl rfl hl.1 rfl (lv_room (Nat.le_of_ble_eq_true rfl)) dX4_permit_21 ⟨Nat.zero_le _, Nat.zero_le _⟩) hP hD hS hA stF (fun H locs hP hD hS => ?_)
      have hP : va_P G vwCl ((xoT xo h hp hh sl) ++ ((paT ca hp ap (g, nI np)) ++ ((hiT ca hh ka (nI n) rf) ++ ((stT ca kj bj T) ++ ((stT ca h a S) ++ (O ++ Z)))))) H := hP
      have hD : va_D A ((xoT xo h hp hh sl) ++ ((paT ca hp ap (g, nI np)) ++ ((hiT ca hh ka (nI n) rf) ++ ((stT ca kj bj T) ++ ((stT ca h a S) ++ (O ++ Z)))))) := hD
      refine lv_if_eq (tgt := 30) hx hb dX4_permit_24 (by decide) (fun c_3 => ?_) (fun c_3 => ?_)
      · skip
        exact absurd c_3 hd
      · skip
        refine lv_bipush (v := (-5)) hx hb dX4_permit_27 (by decide) ?_
        exact hret _ _ _ _ hP hS dX4_permit_29
    · skip
      exact absurd c_2 (by decide)
set_option maxHeartbeats 4000000 in
set_option maxRecDepth 100000 in
theorem c_X4_permit_ok (l : Launch) (G : va_G) (ca : Nat → ClassId) (xo sl : Nat) (hp ap : Nat) (g : Nat → Int32) (np : Nat) (hh ka : Nat) (n : Nat) (rf : Nat → Option Nat) (kj : Nat) (bj : Nat → Nat) (T : SS) (h : Nat) (a : Nat → Nat) (S : SS) (O : va_W) (Z : va_W) (w : Nat) (p : Nat) (hn6 : n ≤ 6) (hkj : recT n rf = some kj) (hob : ∀ i, i < 6 → ∃ (v x : Nat) (y : List Value), rf i = some v ∧ (hiT ca hh ka (nI n) rf ++ (stT ca kj bj T ++ (stT ca h a S ++ O)))[x]? = some (v, .inr (3, y))) (hw : w < 6) (hp1 : p < 12) (hd : bt1 (s_dk S) p = 0) : CtI l yX4_permit wsX4_permit ({ frames := 3, cells := 0, slots := 0, locals := 66 }) [.ref xo, .int (nI w), .int (nI p)] G ca ((xoT xo h hp hh sl) ++ ((paT ca hp ap (g, nI np)) ++ ((hiT ca hh ka (nI n) rf) ++ ((stT ca kj bj T) ++ ((stT ca h a S) ++ (O ++ Z)))))) ((xoT xo h hp hh sl) ++ ((paT ca hp ap (g, nI np)) ++ ((hiT ca hh ka (nI (recN n)) (recR n rf)) ++ ((stT ca kj bj S) ++ ((stT ca h a (s_se S, s_br S, s_wa S, s_cr S, s_sh S, s_ow S, s_pa S, s_cb S, upd (s_pd S) (w * 12 + p) (s_se S 3), s_fz S, s_dk S, s_dy S, s_fe S, s_dr S, s_dn S)) ++ (O ++ Z)))))) (bcN (mkD (hasP (upd (s_pd S) (w * 12 + p) (s_se S 3)) w) 12)) := by
  refine CtI.ofW (cc := cX4_permit) (maxL := 3) (rt := .int) (by decide) rfl (Nat.le_of_ble_eq_true rfl) rfl ?_
  intro pr en s m be me c A ls Q H hx hb hml hts hown hev hP hD hA hS hl hret
  have hown : s.vm.findClass RX4 = some m.cls := hown
  have hl : lv_has ls 3 [(0, .ref xo), (1, .int (nI w)), (2, .int (nI p))] := hl
  have in_wsX40 : ∀ w ∈ wsX40, w ∈ wsX4_permit := fun _ h => List.mem_cons_of_mem _ (List.mem_append_left _ (List.mem_append_left _ (List.mem_append_right _ h)))
  have in_wsX30 : ∀ w ∈ wsX30, w ∈ wsX4_permit := fun _ h => List.mem_cons_of_mem _ (List.mem_append_left _ (List.mem_append_right _ h))
  have in_wsX00 : ∀ w ∈ wsX00, w ∈ wsX4_permit := fun _ h => List.mem_cons_of_mem _ (List.mem_append_right _ h)
  refine lv_iload_n hx hb dX4_permit_0 rfl (lv_at hl 1 rfl) ?_
  refine goI0 (va_runS (As := [.int (nI w)]) (rest := []) ⟨hx, hb, hml, hown, hts⟩ (CtI.use (c_X4_isWalker_in l G ca w (by omega)) H.size) (va_cwS 1 hts gX4_permit_X4_isWalker rfl rfl rfl (by decide +kernel) ⟨Nat.le_of_ble_eq_true rfl, Nat.le_of_ble_eq_true rfl⟩) (pcW_S hev P_nil (D_nil (A := A))) rfl rfl hl.1 rfl (lv_room (Nat.le_of_ble_eq_true rfl)) dX4_permit_1 ⟨Nat.zero_le _, Nat.zero_le _⟩) hP hS hA (fun H locs hP hS => ?_)
  refine lv_if_eq (tgt := 14) hx hb dX4_permit_4 (by decide) (fun c_1 => ?_) (fun c_1 => ?_)
  · skip
    exact absurd c_1 (by decide)
  · skip
    refine lv_iload_n hx hb dX4_permit_7 rfl (lv_at hl 2 rfl) ?_
    refine goI0 (va_runS (As := [.int (nI p)]) (rest := []) ⟨hx, hb, hml, hown, hts⟩ (CtI.use (c_X4_isPuddle_in l G ca p (by omega)) H.size) (va_cwS 1 hts gX4_permit_X4_isPuddle rfl rfl rfl (by decide +kernel) ⟨Nat.le_of_ble_eq_true rfl, Nat.le_of_ble_eq_true rfl⟩) (pcW_S hev P_nil (D_nil (A := A))) rfl rfl hl.1 rfl (lv_room (Nat.le_of_ble_eq_true rfl)) dX4_permit_8 ⟨Nat.zero_le _, Nat.zero_le _⟩) hP hS hA (fun H locs hP hS => ?_)
    refine lv_if_ne (tgt := 16) hx hb dX4_permit_11 (by decide) (fun c_2 => ?_) (fun c_2 => ?_)
    · skip
      refine lv_aload_n hx hb dX4_permit_16 rfl (lv_at hl 0 rfl) ?_
      refine va_get (D := G) (ci := 4) (v := .ref h) (C := RX4) (T := TX4) (N := 4) hx hb hts in_wsX40 hown hev.1 hP 0 rfl rfl 0 (by decide) (hts (.fieldLink RX4 10 "PuddleMinistries" "street" "LPuddleMinistries$Street;") (List.mem_of_getElem? (i := 1) rfl)) (fun _ h9 => h9) rfl dX4_permit_17 ?_
      refine lv_iload_n hx hb dX4_permit_20 rfl (lv_at hl 2 rfl) ?_
      have hP : va_P G vwCl (((xoT xo h hp hh sl) ++ ((paT ca hp ap (g, nI np)) ++ ((hiT ca hh ka (nI n) rf) ++ (stT ca kj bj T)))) ++ ((stT ca h a S) ++ (O ++ Z))) H := hP
      have hD : va_D A (((xoT xo h hp hh sl) ++ ((paT ca hp ap (g, nI np)) ++ ((hiT ca hh ka (nI n) rf) ++ (stT ca kj bj T)))) ++ ((stT ca h a S) ++ (O ++ Z))) := hD
      refine goI (va_runV (As := [.int (nI p)]) (rest := []) ⟨hx, hb, hml, hown, hts⟩ (CtI.use (c_X3_hasDucks l G ca h a S p) H.size) (cwV 1 hts gX4_permit_X3_hasDucks rfl rfl rfl (by decide +kernel) ⟨Nat.le_of_ble_eq_true rfl, Nat.le_of_ble_eq_true rfl⟩) (pcW_V hev (P_left (P_right hP)) (D_left (D_right hD)) (q0 := 0) rfl rfl rfl) rfl rfl hl.1 rfl (lv_room (Nat.le_of_ble_eq_true rfl)) dX4_permit_21 ⟨Nat.zero_le _, Nat.zero_le _⟩) hP hD hS hA stF (fun H locs hP hD hS => ?_)
      have hP : va_P G vwCl ((xoT xo h hp hh sl) ++ ((paT ca hp ap (g, nI np)) ++ ((hiT ca hh ka (nI n) rf) ++ ((stT ca kj bj T) ++ ((stT ca h a S) ++ (O ++ Z)))))) H := hP
      have hD : va_D A ((xoT xo h hp hh sl) ++ ((paT ca hp ap (g, nI np)) ++ ((hiT ca hh ka (nI n) rf) ++ ((stT ca kj bj T) ++ ((stT ca h a S) ++ (O ++ Z)))))) := hD
      refine lv_if_eq (tgt := 30) hx hb dX4_permit_24 (by decide) (fun c_3 => ?_) (fun c_3 => ?_)
      · skip
        refine lv_aload_n hx hb dX4_permit_30 rfl (lv_at hl 0 rfl) ?_
        refine va_get (D := G) (ci := 4) (v := .ref hh) (C := RX4) (T := TX4) (N := 4) hx hb hts in_wsX40 hown hev.1 hP 0 rfl rfl 2 (by decide) (hts (.fieldLink RX4 26 "PuddleMinistries" "history" "LPuddleMinistries$History;") (List.mem_of_getElem? (i := 2) rfl)) (fun _ h9 => h9) rfl dX4_permit_31 ?_
        refine lv_aload_n hx hb dX4_permit_34 rfl (lv_at hl 0 rfl) ?_
        refine va_get (D := G) (ci := 4) (v := .ref h) (C := RX4) (T := TX4) (N := 4) hx hb hts in_wsX40 hown hev.1 hP 0 rfl rfl 0 (by decide) (hts (.fieldLink RX4 10 "PuddleMinistries" "street" "LPuddleMinistries$Street;") (List.mem_of_getElem? (i := 1) rfl)) (fun _ h9 => h9) rfl dX4_permit_35 ?_
        have hP : va_P G vwCl (((xoT xo h hp hh sl) ++ (paT ca hp ap (g, nI np))) ++ (((hiT ca hh ka (nI n) rf) ++ ((stT ca kj bj T) ++ ((stT ca h a S) ++ O))) ++ Z)) H := hP
        have hD : va_D A (((xoT xo h hp hh sl) ++ (paT ca hp ap (g, nI np))) ++ (((hiT ca hh ka (nI n) rf) ++ ((stT ca kj bj T) ++ ((stT ca h a S) ++ O))) ++ Z)) := hD
        refine goV (va_runV (As := [.ref h]) (rest := []) ⟨hx, hb, hml, hown, hts⟩ (CtV.use (c_X0_record l G ca hh ka n rf kj bj T h a S O hn6 hkj hob) H.size) (cwV 1 hts gX4_permit_X0_record rfl rfl rfl (by decide +kernel) ⟨Nat.le_of_ble_eq_true rfl, Nat.le_of_ble_eq_true rfl⟩) (pcW_V hev (P_left (P_right hP)) (D_left (D_right hD)) (q0 := 0) rfl rfl rfl) rfl rfl hl.1 rfl (lv_room (Nat.le_of_ble_eq_true rfl)) dX4_permit_38 ⟨Nat.zero_le _, Nat.zero_le _⟩) hP hD hS hA (app_F hiF (app_F stF (app_F stF rfl))) (fun H locs hP hD hS => ?_)
        have hP : va_P G vwCl ((xoT xo h hp hh sl) ++ ((paT ca hp ap (g, nI np)) ++ ((hiT ca hh ka (nI (recN n)) (recR n rf)) ++ ((stT ca kj bj S) ++ ((stT ca h a S) ++ (O ++ Z)))))) H := hP
        have hD : va_D A ((xoT xo h hp hh sl) ++ ((paT ca hp ap (g, nI np)) ++ ((hiT ca hh ka (nI (recN n)) (recR n rf)) ++ ((stT ca kj bj S) ++ ((stT ca h a S) ++ (O ++ Z)))))) := hD
        refine lv_aload_n hx hb dX4_permit_41 rfl (lv_at hl 0 rfl) ?_
        refine va_get (D := G) (ci := 4) (v := .ref h) (C := RX4) (T := TX4) (N := 4) hx hb hts in_wsX40 hown hev.1 hP 0 rfl rfl 0 (by decide) (hts (.fieldLink RX4 10 "PuddleMinistries" "street" "LPuddleMinistries$Street;") (List.mem_of_getElem? (i := 1) rfl)) (fun _ h9 => h9) rfl dX4_permit_42 ?_
        refine va_get (D := G) (ci := 3) (v := .ref (a 8)) (C := RX3) (T := TX3) (N := 15) hx hb hts in_wsX30 hown hev.1 hP 15 rfl rfl 8 (by decide) (hts (.fieldLink RX4 78 "PuddleMinistries$Street" "permitDays" "[I") (List.mem_of_getElem? (i := 3) rfl)) (fun _ h9 => h9) rfl dX4_permit_45 ?_
        refine lv_iload_n hx hb dX4_permit_48 rfl (lv_at hl 1 rfl) ?_
        refine lv_iload_n hx hb dX4_permit_49 rfl (lv_at hl 2 rfl) ?_
        refine goI0 (va_runS (As := [.int (nI w), .int (nI p)]) (rest := [.ref (a 8)]) ⟨hx, hb, hml, hown, hts⟩ (CtI.use (c_X4_placeOf l G ca w p) H.size) (va_cwS 2 hts gX4_permit_X4_placeOf rfl rfl rfl (by decide +kernel) ⟨Nat.le_of_ble_eq_true rfl, Nat.le_of_ble_eq_true rfl⟩) (pcW_S hev P_nil (D_nil (A := A))) rfl rfl hl.1 rfl (lv_room (Nat.le_of_ble_eq_true rfl)) dX4_permit_50 ⟨Nat.zero_le _, Nat.zero_le _⟩) hP hS hA (fun H locs hP hS => ?_)
        refine lv_aload_n hx hb dX4_permit_53 rfl (lv_at hl 0 rfl) ?_
        refine va_get (D := G) (ci := 4) (v := .ref h) (C := RX4) (T := TX4) (N := 4) hx hb hts in_wsX40 hown hev.1 hP 0 rfl rfl 0 (by decide) (hts (.fieldLink RX4 10 "PuddleMinistries" "street" "LPuddleMinistries$Street;") (List.mem_of_getElem? (i := 1) rfl)) (fun _ h9 => h9) rfl dX4_permit_54 ?_
        refine va_get (D := G) (ci := 3) (v := .ref (a 0)) (C := RX3) (T := TX3) (N := 15) hx hb hts in_wsX30 hown hev.1 hP 15 rfl rfl 0 (by decide) (hts (.fieldLink RX4 48 "PuddleMinistries$Street" "settings" "[I") (List.mem_of_getElem? (i := 4) rfl)) (fun _ h9 => h9) rfl dX4_permit_57 ?_
        refine lv_iconst (v := nI 3) hx hb dX4_permit_60 (by decide) ?_
        refine b_iald hx hb hev.1 hP 16 rfl rfl (j := 3) (by omega) (by decide) dX4_permit_61 ?_
        refine b_iast hx hb hev.1 hP hD hS 24 rfl rfl (j := (w * 12 + p)) (by omega) (by decide) dX4_permit_62 (fun H locs hP hD hS => ?_)
        have hP : va_P G vwCl ((xoT xo h hp hh sl) ++ ((paT ca hp ap (g, nI np)) ++ ((hiT ca hh ka (nI (recN n)) (recR n rf)) ++ ((stT ca kj bj S) ++ ((stT ca h a (s_se S, s_br S, s_wa S, s_cr S, s_sh S, s_ow S, s_pa S, s_cb S, upd (s_pd S) (w * 12 + p) ((s_se S) 3), s_fz S, s_dk S, s_dy S, s_fe S, s_dr S, s_dn S)) ++ (O ++ Z)))))) H := hP
        have hD : va_D A ((xoT xo h hp hh sl) ++ ((paT ca hp ap (g, nI np)) ++ ((hiT ca hh ka (nI (recN n)) (recR n rf)) ++ ((stT ca kj bj S) ++ ((stT ca h a (s_se S, s_br S, s_wa S, s_cr S, s_sh S, s_ow S, s_pa S, s_cb S, upd (s_pd S) (w * 12 + p) ((s_se S) 3), s_fz S, s_dk S, s_dy S, s_fe S, s_dr S, s_dn S)) ++ (O ++ Z)))))) := hD
        refine lv_aload_n hx hb dX4_permit_63 rfl (lv_at hl 0 rfl) ?_
        refine va_get (D := G) (ci := 4) (v := .ref h) (C := RX4) (T := TX4) (N := 4) hx hb hts in_wsX40 hown hev.1 hP 0 rfl rfl 0 (by decide) (hts (.fieldLink RX4 10 "PuddleMinistries" "street" "LPuddleMinistries$Street;") (List.mem_of_getElem? (i := 1) rfl)) (fun _ h9 => h9) rfl dX4_permit_64 ?_
        refine lv_iload_n hx hb dX4_permit_67 rfl (lv_at hl 1 rfl) ?_
        have hP : va_P G vwCl (((xoT xo h hp hh sl) ++ ((paT ca hp ap (g, nI np)) ++ ((hiT ca hh ka (nI (recN n)) (recR n rf)) ++ (stT ca kj bj S)))) ++ ((stT ca h a (s_se S, s_br S, s_wa S, s_cr S, s_sh S, s_ow S, s_pa S, s_cb S, upd (s_pd S) (w * 12 + p) ((s_se S) 3), s_fz S, s_dk S, s_dy S, s_fe S, s_dr S, s_dn S)) ++ (O ++ Z))) H := hP
        have hD : va_D A (((xoT xo h hp hh sl) ++ ((paT ca hp ap (g, nI np)) ++ ((hiT ca hh ka (nI (recN n)) (recR n rf)) ++ (stT ca kj bj S)))) ++ ((stT ca h a (s_se S, s_br S, s_wa S, s_cr S, s_sh S, s_ow S, s_pa S, s_cb S, upd (s_pd S) (w * 12 + p) ((s_se S) 3), s_fz S, s_dk S, s_dy S, s_fe S, s_dr S, s_dn S)) ++ (O ++ Z))) := hD
        refine goI (va_runV (As := [.int (nI w)]) (rest := []) ⟨hx, hb, hml, hown, hts⟩ (CtI.use (c_X3_permitsOf l G ca h a (s_se S, s_br S, s_wa S, s_cr S, s_sh S, s_ow S, s_pa S, s_cb S, upd (s_pd S) (w * 12 + p) ((s_se S) 3), s_fz S, s_dk S, s_dy S, s_fe S, s_dr S, s_dn S) w (by omega)) H.size) (cwV 1 hts gX4_permit_X3_permitsOf rfl rfl rfl (by decide +kernel) ⟨Nat.le_of_ble_eq_true rfl, Nat.le_of_ble_eq_true rfl⟩) (pcW_V hev (P_left (P_right hP)) (D_left (D_right hD)) (q0 := 0) rfl rfl rfl) rfl rfl hl.1 rfl (lv_room (Nat.le_of_ble_eq_true rfl)) dX4_permit_68 ⟨Nat.zero_le _, Nat.zero_le _⟩) hP hD hS hA stF (fun H locs hP hD hS => ?_)
        have hP : va_P G vwCl ((xoT xo h hp hh sl) ++ ((paT ca hp ap (g, nI np)) ++ ((hiT ca hh ka (nI (recN n)) (recR n rf)) ++ ((stT ca kj bj S) ++ ((stT ca h a (s_se S, s_br S, s_wa S, s_cr S, s_sh S, s_ow S, s_pa S, s_cb S, upd (s_pd S) (w * 12 + p) ((s_se S) 3), s_fz S, s_dk S, s_dy S, s_fe S, s_dr S, s_dn S)) ++ (O ++ Z)))))) H := hP
        have hD : va_D A ((xoT xo h hp hh sl) ++ ((paT ca hp ap (g, nI np)) ++ ((hiT ca hh ka (nI (recN n)) (recR n rf)) ++ ((stT ca kj bj S) ++ ((stT ca h a (s_se S, s_br S, s_wa S, s_cr S, s_sh S, s_ow S, s_pa S, s_cb S, upd (s_pd S) (w * 12 + p) ((s_se S) 3), s_fz S, s_dk S, s_dy S, s_fe S, s_dr S, s_dn S)) ++ (O ++ Z)))))) := hD
        refine lv_eqi (y := mkD (hasP (upd (s_pd S) (w * 12 + p) ((s_se S) 3)) w) 12) rfl ?_
        refine goI0 (va_runS (As := [.int (mkD (hasP (upd (s_pd S) (w * 12 + p) ((s_se S) 3)) w) 12)]) (rest := []) ⟨hx, hb, hml, hown, hts⟩ (CtI.use (c_J6_bitCount_0f7a4 l G ca (mkD (hasP (upd (s_pd S) (w * 12 + p) ((s_se S) 3)) w) 12)) H.size) (va_cwS 1 hts gX4_permit_J6_bitCount_0f7a4 rfl rfl rfl (by decide +kernel) ⟨Nat.le_of_ble_eq_true rfl, Nat.le_of_ble_eq_true rfl⟩) (pcW_S hev P_nil (D_nil (A := A))) rfl rfl hl.1 rfl (lv_room (Nat.le_of_ble_eq_true rfl)) dX4_permit_71 ⟨Nat.zero_le _, Nat.zero_le _⟩) hP hS hA (fun H locs hP hS => ?_)
        refine lv_eqi (y := bcN (mkD (hasP (upd (s_pd S) (w * 12 + p) (s_se S 3)) w) 12)) rfl ?_
        exact hret _ _ _ _ hP hS dX4_permit_74
      · skip
        exact absurd hd c_3
    · skip
      exact absurd c_2 (by decide)
set_option maxHeartbeats 4000000 in
set_option maxRecDepth 100000 in
theorem c_X4_pay_out (l : Launch) (G : va_G) (ca : Nat → ClassId) (xo sl : Nat) (hp ap : Nat) (g : Nat → Int32) (np : Nat) (hh ka : Nat) (n : Nat) (rf : Nat → Option Nat) (kj : Nat) (bj : Nat → Nat) (T : SS) (h : Nat) (a : Nat → Nat) (S : SS) (O : va_W) (Z : va_W) (x : Int32) (hx0 : x < 0 ∨ nI 6 ≤ x) : CtI l yX4_pay wsX4_pay ({ frames := 1, cells := 0, slots := 0, locals := 20 }) [.ref xo, .int x] G ca ((xoT xo h hp hh sl) ++ ((paT ca hp ap (g, nI np)) ++ ((hiT ca hh ka (nI n) rf) ++ ((stT ca kj bj T) ++ ((stT ca h a S) ++ (O ++ Z)))))) ((xoT xo h hp hh sl) ++ ((paT ca hp ap (g, nI np)) ++ ((hiT ca hh ka (nI n) rf) ++ ((stT ca kj bj T) ++ ((stT ca h a S) ++ (O ++ Z)))))) (-1) := by
  refine CtI.ofW (cc := cX4_pay) (maxL := 3) (rt := .int) (by decide) rfl (Nat.le_of_ble_eq_true rfl) rfl ?_
  intro pr en s m be me c A ls Q H hx hb hml hts hown hev hP hD hA hS hl hret
  have hown : s.vm.findClass RX4 = some m.cls := hown
  have hl : lv_has ls 3 [(0, .ref xo), (1, .int x)] := hl
  have in_wsX40 : ∀ w ∈ wsX40, w ∈ wsX4_pay := fun _ h => List.mem_cons_of_mem _ (List.mem_append_left _ (List.mem_append_left _ (List.mem_append_right _ h)))
  have in_wsX30 : ∀ w ∈ wsX30, w ∈ wsX4_pay := fun _ h => List.mem_cons_of_mem _ (List.mem_append_left _ (List.mem_append_right _ h))
  have in_wsX00 : ∀ w ∈ wsX00, w ∈ wsX4_pay := fun _ h => List.mem_cons_of_mem _ (List.mem_append_right _ h)
  refine lv_iload_n hx hb dX4_pay_0 rfl (lv_at hl 1 rfl) ?_
  refine goI0 (va_runS (As := [.int x]) (rest := []) ⟨hx, hb, hml, hown, hts⟩ (CtI.use (c_X4_isWalker_out l G ca x hx0) H.size) (va_cwS 1 hts gX4_pay_X4_isWalker rfl rfl rfl (by decide +kernel) ⟨Nat.le_of_ble_eq_true rfl, Nat.le_of_ble_eq_true rfl⟩) (pcW_S hev P_nil (D_nil (A := A))) rfl rfl hl.1 rfl (lv_room (Nat.le_of_ble_eq_true rfl)) dX4_pay_1 ⟨Nat.zero_le _, Nat.zero_le _⟩) hP hS hA (fun H locs hP hS => ?_)
  refine lv_if_ne (tgt := 9) hx hb dX4_pay_4 (by decide) (fun c_1 => ?_) (fun c_1 => ?_)
  · skip
    exact absurd (by decide) c_1
  · skip
    refine lv_iconst (v := (-1)) hx hb dX4_pay_7 (by decide) ?_
    exact hret _ _ _ _ hP hS dX4_pay_8
set_option maxHeartbeats 4000000 in
set_option maxRecDepth 100000 in
theorem c_X4_pay_ok (l : Launch) (G : va_G) (ca : Nat → ClassId) (xo sl : Nat) (hp ap : Nat) (g : Nat → Int32) (np : Nat) (hh ka : Nat) (n : Nat) (rf : Nat → Option Nat) (kj : Nat) (bj : Nat → Nat) (T : SS) (h : Nat) (a : Nat → Nat) (S : SS) (O : va_W) (Z : va_W) (w : Nat) (hn6 : n ≤ 6) (hkj : recT n rf = some kj) (hob : ∀ i, i < 6 → ∃ (v x : Nat) (y : List Value), rf i = some v ∧ (hiT ca hh ka (nI n) rf ++ (stT ca kj bj T ++ (stT ca h a S ++ O)))[x]? = some (v, .inr (3, y))) (hw : w < 6) : CtI l yX4_pay wsX4_pay ({ frames := 3, cells := 0, slots := 0, locals := 64 }) [.ref xo, .int (nI w)] G ca ((xoT xo h hp hh sl) ++ ((paT ca hp ap (g, nI np)) ++ ((hiT ca hh ka (nI n) rf) ++ ((stT ca kj bj T) ++ ((stT ca h a S) ++ (O ++ Z)))))) ((xoT xo h hp hh sl) ++ ((paT ca hp ap (g, nI np)) ++ ((hiT ca hh ka (nI (recN n)) (recR n rf)) ++ ((stT ca kj bj S) ++ ((stT ca h a (s_se S, s_br S, s_wa S, s_cr S, s_sh S, upd (s_ow S) w 0, upd (s_pa S) w (s_pa S w + s_ow S w), s_cb S, s_pd S, s_fz S, s_dk S, s_dy S, s_fe S, s_dr S, s_dn S)) ++ (O ++ Z)))))) (s_ow S w) := by
  refine CtI.ofW (cc := cX4_pay) (maxL := 3) (rt := .int) (by decide) rfl (Nat.le_of_ble_eq_true rfl) rfl ?_
  intro pr en s m be me c A ls Q H hx hb hml hts hown hev hP hD hA hS hl hret
  have hown : s.vm.findClass RX4 = some m.cls := hown
  have hl : lv_has ls 3 [(0, .ref xo), (1, .int (nI w))] := hl
  have in_wsX40 : ∀ w ∈ wsX40, w ∈ wsX4_pay := fun _ h => List.mem_cons_of_mem _ (List.mem_append_left _ (List.mem_append_left _ (List.mem_append_right _ h)))
  have in_wsX30 : ∀ w ∈ wsX30, w ∈ wsX4_pay := fun _ h => List.mem_cons_of_mem _ (List.mem_append_left _ (List.mem_append_right _ h))
  have in_wsX00 : ∀ w ∈ wsX00, w ∈ wsX4_pay := fun _ h => List.mem_cons_of_mem _ (List.mem_append_right _ h)
  refine lv_iload_n hx hb dX4_pay_0 rfl (lv_at hl 1 rfl) ?_
  refine goI0 (va_runS (As := [.int (nI w)]) (rest := []) ⟨hx, hb, hml, hown, hts⟩ (CtI.use (c_X4_isWalker_in l G ca w (by omega)) H.size) (va_cwS 1 hts gX4_pay_X4_isWalker rfl rfl rfl (by decide +kernel) ⟨Nat.le_of_ble_eq_true rfl, Nat.le_of_ble_eq_true rfl⟩) (pcW_S hev P_nil (D_nil (A := A))) rfl rfl hl.1 rfl (lv_room (Nat.le_of_ble_eq_true rfl)) dX4_pay_1 ⟨Nat.zero_le _, Nat.zero_le _⟩) hP hS hA (fun H locs hP hS => ?_)
  refine lv_if_ne (tgt := 9) hx hb dX4_pay_4 (by decide) (fun c_1 => ?_) (fun c_1 => ?_)
  · skip
    refine lv_aload_n hx hb dX4_pay_9 rfl (lv_at hl 0 rfl) ?_
    refine va_get (D := G) (ci := 4) (v := .ref hh) (C := RX4) (T := TX4) (N := 4) hx hb hts in_wsX40 hown hev.1 hP 0 rfl rfl 2 (by decide) (hts (.fieldLink RX4 26 "PuddleMinistries" "history" "LPuddleMinistries$History;") (List.mem_of_getElem? (i := 1) rfl)) (fun _ h9 => h9) rfl dX4_pay_10 ?_
    refine lv_aload_n hx hb dX4_pay_13 rfl (lv_at hl 0 rfl) ?_
    refine va_get (D := G) (ci := 4) (v := .ref h) (C := RX4) (T := TX4) (N := 4) hx hb hts in_wsX40 hown hev.1 hP 0 rfl rfl 0 (by decide) (hts (.fieldLink RX4 10 "PuddleMinistries" "street" "LPuddleMinistries$Street;") (List.mem_of_getElem? (i := 2) rfl)) (fun _ h9 => h9) rfl dX4_pay_14 ?_
    have hP : va_P G vwCl (((xoT xo h hp hh sl) ++ (paT ca hp ap (g, nI np))) ++ (((hiT ca hh ka (nI n) rf) ++ ((stT ca kj bj T) ++ ((stT ca h a S) ++ O))) ++ Z)) H := hP
    have hD : va_D A (((xoT xo h hp hh sl) ++ (paT ca hp ap (g, nI np))) ++ (((hiT ca hh ka (nI n) rf) ++ ((stT ca kj bj T) ++ ((stT ca h a S) ++ O))) ++ Z)) := hD
    refine goV (va_runV (As := [.ref h]) (rest := []) ⟨hx, hb, hml, hown, hts⟩ (CtV.use (c_X0_record l G ca hh ka n rf kj bj T h a S O hn6 hkj hob) H.size) (cwV 1 hts gX4_pay_X0_record rfl rfl rfl (by decide +kernel) ⟨Nat.le_of_ble_eq_true rfl, Nat.le_of_ble_eq_true rfl⟩) (pcW_V hev (P_left (P_right hP)) (D_left (D_right hD)) (q0 := 0) rfl rfl rfl) rfl rfl hl.1 rfl (lv_room (Nat.le_of_ble_eq_true rfl)) dX4_pay_17 ⟨Nat.zero_le _, Nat.zero_le _⟩) hP hD hS hA (app_F hiF (app_F stF (app_F stF rfl))) (fun H locs hP hD hS => ?_)
    have hP : va_P G vwCl ((xoT xo h hp hh sl) ++ ((paT ca hp ap (g, nI np)) ++ ((hiT ca hh ka (nI (recN n)) (recR n rf)) ++ ((stT ca kj bj S) ++ ((stT ca h a S) ++ (O ++ Z)))))) H := hP
    have hD : va_D A ((xoT xo h hp hh sl) ++ ((paT ca hp ap (g, nI np)) ++ ((hiT ca hh ka (nI (recN n)) (recR n rf)) ++ ((stT ca kj bj S) ++ ((stT ca h a S) ++ (O ++ Z)))))) := hD
    refine lv_aload_n hx hb dX4_pay_20 rfl (lv_at hl 0 rfl) ?_
    refine va_get (D := G) (ci := 4) (v := .ref h) (C := RX4) (T := TX4) (N := 4) hx hb hts in_wsX40 hown hev.1 hP 0 rfl rfl 0 (by decide) (hts (.fieldLink RX4 10 "PuddleMinistries" "street" "LPuddleMinistries$Street;") (List.mem_of_getElem? (i := 2) rfl)) (fun _ h9 => h9) rfl dX4_pay_21 ?_
    refine va_get (D := G) (ci := 3) (v := .ref (a 5)) (C := RX3) (T := TX3) (N := 15) hx hb hts in_wsX30 hown hev.1 hP 15 rfl rfl 5 (by decide) (hts (.fieldLink RX4 104 "PuddleMinistries$Street" "owedBy" "[I") (List.mem_of_getElem? (i := 3) rfl)) (fun _ h9 => h9) rfl dX4_pay_24 ?_
    refine lv_iload_n hx hb dX4_pay_27 rfl (lv_at hl 1 rfl) ?_
    refine b_iald hx hb hev.1 hP 21 rfl rfl (j := w) (by omega) (by decide) dX4_pay_28 ?_
    refine lv_istore_n (lv' := [(2, .int ((s_ow S) w)), (0, .ref xo), (1, .int (nI w))]) hx hb dX4_pay_29 rfl hl (by decide) rfl (fun ls hl => ?_)
    refine lv_aload_n hx hb dX4_pay_30 rfl (lv_at hl 1 rfl) ?_
    refine va_get (D := G) (ci := 4) (v := .ref h) (C := RX4) (T := TX4) (N := 4) hx hb hts in_wsX40 hown hev.1 hP 0 rfl rfl 0 (by decide) (hts (.fieldLink RX4 10 "PuddleMinistries" "street" "LPuddleMinistries$Street;") (List.mem_of_getElem? (i := 2) rfl)) (fun _ h9 => h9) rfl dX4_pay_31 ?_
    refine va_get (D := G) (ci := 3) (v := .ref (a 5)) (C := RX3) (T := TX3) (N := 15) hx hb hts in_wsX30 hown hev.1 hP 15 rfl rfl 5 (by decide) (hts (.fieldLink RX4 104 "PuddleMinistries$Street" "owedBy" "[I") (List.mem_of_getElem? (i := 3) rfl)) (fun _ h9 => h9) rfl dX4_pay_34 ?_
    refine lv_iload_n hx hb dX4_pay_37 rfl (lv_at hl 2 rfl) ?_
    refine lv_iconst (v := 0) hx hb dX4_pay_38 (by decide) ?_
    refine b_iast hx hb hev.1 hP hD hS 21 rfl rfl (j := w) (by omega) (by decide) dX4_pay_39 (fun H locs hP hD hS => ?_)
    have hP : va_P G vwCl ((xoT xo h hp hh sl) ++ ((paT ca hp ap (g, nI np)) ++ ((hiT ca hh ka (nI (recN n)) (recR n rf)) ++ ((stT ca kj bj S) ++ ((stT ca h a (s_se S, s_br S, s_wa S, s_cr S, s_sh S, upd (s_ow S) w 0, s_pa S, s_cb S, s_pd S, s_fz S, s_dk S, s_dy S, s_fe S, s_dr S, s_dn S)) ++ (O ++ Z)))))) H := hP
    have hD : va_D A ((xoT xo h hp hh sl) ++ ((paT ca hp ap (g, nI np)) ++ ((hiT ca hh ka (nI (recN n)) (recR n rf)) ++ ((stT ca kj bj S) ++ ((stT ca h a (s_se S, s_br S, s_wa S, s_cr S, s_sh S, upd (s_ow S) w 0, s_pa S, s_cb S, s_pd S, s_fz S, s_dk S, s_dy S, s_fe S, s_dr S, s_dn S)) ++ (O ++ Z)))))) := hD
    refine lv_aload_n hx hb dX4_pay_40 rfl (lv_at hl 1 rfl) ?_
    refine va_get (D := G) (ci := 4) (v := .ref h) (C := RX4) (T := TX4) (N := 4) hx hb hts in_wsX40 hown hev.1 hP 0 rfl rfl 0 (by decide) (hts (.fieldLink RX4 10 "PuddleMinistries" "street" "LPuddleMinistries$Street;") (List.mem_of_getElem? (i := 2) rfl)) (fun _ h9 => h9) rfl dX4_pay_41 ?_
    refine va_get (D := G) (ci := 3) (v := .ref (a 6)) (C := RX3) (T := TX3) (N := 15) hx hb hts in_wsX30 hown hev.1 hP 15 rfl rfl 6 (by decide) (hts (.fieldLink RX4 107 "PuddleMinistries$Street" "paidBy" "[I") (List.mem_of_getElem? (i := 4) rfl)) (fun _ h9 => h9) rfl dX4_pay_44 ?_
    refine lv_iload_n hx hb dX4_pay_47 rfl (lv_at hl 2 rfl) ?_
    refine lv_dup2_11 hx hb dX4_pay_48 rfl rfl ?_
    refine b_iald hx hb hev.1 hP 22 rfl rfl (j := w) (by omega) (by decide) dX4_pay_49 ?_
    refine lv_iload_n hx hb dX4_pay_50 rfl (lv_at hl 0 rfl) ?_
    refine lv_iadd hx hb dX4_pay_51 ?_
    refine b_iast hx hb hev.1 hP hD hS 22 rfl rfl (j := w) (by omega) (by decide) dX4_pay_52 (fun H locs hP hD hS => ?_)
    have hP : va_P G vwCl ((xoT xo h hp hh sl) ++ ((paT ca hp ap (g, nI np)) ++ ((hiT ca hh ka (nI (recN n)) (recR n rf)) ++ ((stT ca kj bj S) ++ ((stT ca h a (s_se S, s_br S, s_wa S, s_cr S, s_sh S, upd (s_ow S) w 0, upd (s_pa S) w (((s_pa S) w) + ((s_ow S) w)), s_cb S, s_pd S, s_fz S, s_dk S, s_dy S, s_fe S, s_dr S, s_dn S)) ++ (O ++ Z)))))) H := hP
    have hD : va_D A ((xoT xo h hp hh sl) ++ ((paT ca hp ap (g, nI np)) ++ ((hiT ca hh ka (nI (recN n)) (recR n rf)) ++ ((stT ca kj bj S) ++ ((stT ca h a (s_se S, s_br S, s_wa S, s_cr S, s_sh S, upd (s_ow S) w 0, upd (s_pa S) w (((s_pa S) w) + ((s_ow S) w)), s_cb S, s_pd S, s_fz S, s_dk S, s_dy S, s_fe S, s_dr S, s_dn S)) ++ (O ++ Z)))))) := hD
    refine lv_iload_n hx hb dX4_pay_53 rfl (lv_at hl 0 rfl) ?_
    refine lv_eqi (y := s_ow S w) rfl ?_
    exact hret _ _ _ _ hP hS dX4_pay_54
  · skip
    exact absurd c_1 (by decide)
def crS (S : SS) (w f t : Nat) : Nat → SS | 0 => S | i + 1 => (s_se (crS S w f t i), s_br (crS S w f t i), s_wa (crS S w f t i), upd (s_cr (crS S w f t i)) (plc i f t) (s_cr (crS S w f t i) (plc i f t) + 1), s_sh (crS S w f t i), upd (s_ow (crS S w f t i)) w (s_ow (crS S w f t i) w + dutyA (crS S w f t i) (plc i f t)), s_pa (crS S w f t i), upd (s_cb (crS S w f t i)) w (s_cb (crS S w f t i) w + 1), s_pd (crS S w f t i), s_fz (crS S w f t i), s_dk (crS S w f t i), s_dy (crS S w f t i), s_fe (crS S w f t i), s_dr (crS S w f t i), s_dn (crS S w f t i))
set_option maxHeartbeats 4000000 in
set_option maxRecDepth 100000 in
theorem c_X4_walk_outw (l : Launch) (G : va_G) (ca : Nat → ClassId) (xo sl : Nat) (hp ap : Nat) (g : Nat → Int32) (np : Nat) (hh ka : Nat) (n : Nat) (rf : Nat → Option Nat) (kj : Nat) (bj : Nat → Nat) (T : SS) (h : Nat) (a : Nat → Nat) (S : SS) (O : va_W) (Z : va_W) (x : Int32) (v : Int32) (y : Int32) (hx0 : x < 0 ∨ nI 6 ≤ x) : CtI l yX4_walk wsX4_walk ({ frames := 1, cells := 0, slots := 0, locals := 20 }) [.ref xo, .int x, .int v, .int y] G ca ((xoT xo h hp hh sl) ++ ((paT ca hp ap (g, nI np)) ++ ((hiT ca hh ka (nI n) rf) ++ ((stT ca kj bj T) ++ ((stT ca h a S) ++ (O ++ Z)))))) ((xoT xo h hp hh sl) ++ ((paT ca hp ap (g, nI np)) ++ ((hiT ca hh ka (nI n) rf) ++ ((stT ca kj bj T) ++ ((stT ca h a S) ++ (O ++ Z)))))) (-1) := by
  refine CtI.ofW (cc := cX4_walk) (maxL := 6) (rt := .int) (by decide) rfl (Nat.le_of_ble_eq_true rfl) rfl ?_
  intro pr en s m be me c A ls Q H hx hb hml hts hown hev hP hD hA hS hl hret
  have hown : s.vm.findClass RX4 = some m.cls := hown
  have hl : lv_has ls 6 [(0, .ref xo), (1, .int x), (2, .int v), (3, .int y)] := hl
  have in_wsX40 : ∀ w ∈ wsX40, w ∈ wsX4_walk := fun _ h => List.mem_cons_of_mem _ (List.mem_append_left _ (List.mem_append_left _ (List.mem_append_right _ h)))
  have in_wsX00 : ∀ w ∈ wsX00, w ∈ wsX4_walk := fun _ h => List.mem_cons_of_mem _ (List.mem_append_left _ (List.mem_append_right _ h))
  have in_wsX30 : ∀ w ∈ wsX30, w ∈ wsX4_walk := fun _ h => List.mem_cons_of_mem _ (List.mem_append_right _ h)
  refine lv_iload_n hx hb dX4_walk_0 rfl (lv_at hl 1 rfl) ?_
  refine goI0 (va_runS (As := [.int x]) (rest := []) ⟨hx, hb, hml, hown, hts⟩ (CtI.use (c_X4_isWalker_out l G ca x hx0) H.size) (va_cwS 1 hts gX4_walk_X4_isWalker rfl rfl rfl (by decide +kernel) ⟨Nat.le_of_ble_eq_true rfl, Nat.le_of_ble_eq_true rfl⟩) (pcW_S hev P_nil (D_nil (A := A))) rfl rfl hl.1 rfl (lv_room (Nat.le_of_ble_eq_true rfl)) dX4_walk_1 ⟨Nat.zero_le _, Nat.zero_le _⟩) hP hS hA (fun H locs hP hS => ?_)
  refine lv_if_eq (tgt := 21) hx hb dX4_walk_4 (by decide) (fun c_1 => ?_) (fun c_1 => ?_)
  · skip
    refine lv_iconst (v := (-1)) hx hb dX4_walk_21 (by decide) ?_
    exact hret _ _ _ _ hP hS dX4_walk_22
  · skip
    exact absurd (by decide) c_1
set_option maxHeartbeats 4000000 in
set_option maxRecDepth 100000 in
theorem c_X4_walk_outf (l : Launch) (G : va_G) (ca : Nat → ClassId) (xo sl : Nat) (hp ap : Nat) (g : Nat → Int32) (np : Nat) (hh ka : Nat) (n : Nat) (rf : Nat → Option Nat) (kj : Nat) (bj : Nat → Nat) (T : SS) (h : Nat) (a : Nat → Nat) (S : SS) (O : va_W) (Z : va_W) (w : Nat) (x : Int32) (y : Int32) (hw : w < 6) (hx0 : x < 0 ∨ nI 12 ≤ x) : CtI l yX4_walk wsX4_walk ({ frames := 1, cells := 0, slots := 0, locals := 20 }) [.ref xo, .int (nI w), .int x, .int y] G ca ((xoT xo h hp hh sl) ++ ((paT ca hp ap (g, nI np)) ++ ((hiT ca hh ka (nI n) rf) ++ ((stT ca kj bj T) ++ ((stT ca h a S) ++ (O ++ Z)))))) ((xoT xo h hp hh sl) ++ ((paT ca hp ap (g, nI np)) ++ ((hiT ca hh ka (nI n) rf) ++ ((stT ca kj bj T) ++ ((stT ca h a S) ++ (O ++ Z)))))) (-1) := by
  refine CtI.ofW (cc := cX4_walk) (maxL := 6) (rt := .int) (by decide) rfl (Nat.le_of_ble_eq_true rfl) rfl ?_
  intro pr en s m be me c A ls Q H hx hb hml hts hown hev hP hD hA hS hl hret
  have hown : s.vm.findClass RX4 = some m.cls := hown
  have hl : lv_has ls 6 [(0, .ref xo), (1, .int (nI w)), (2, .int x), (3, .int y)] := hl
  have in_wsX40 : ∀ w ∈ wsX40, w ∈ wsX4_walk := fun _ h => List.mem_cons_of_mem _ (List.mem_append_left _ (List.mem_append_left _ (List.mem_append_right _ h)))
  have in_wsX00 : ∀ w ∈ wsX00, w ∈ wsX4_walk := fun _ h => List.mem_cons_of_mem _ (List.mem_append_left _ (List.mem_append_right _ h))
  have in_wsX30 : ∀ w ∈ wsX30, w ∈ wsX4_walk := fun _ h => List.mem_cons_of_mem _ (List.mem_append_right _ h)
  refine lv_iload_n hx hb dX4_walk_0 rfl (lv_at hl 1 rfl) ?_
  refine goI0 (va_runS (As := [.int (nI w)]) (rest := []) ⟨hx, hb, hml, hown, hts⟩ (CtI.use (c_X4_isWalker_in l G ca w (by omega)) H.size) (va_cwS 1 hts gX4_walk_X4_isWalker rfl rfl rfl (by decide +kernel) ⟨Nat.le_of_ble_eq_true rfl, Nat.le_of_ble_eq_true rfl⟩) (pcW_S hev P_nil (D_nil (A := A))) rfl rfl hl.1 rfl (lv_room (Nat.le_of_ble_eq_true rfl)) dX4_walk_1 ⟨Nat.zero_le _, Nat.zero_le _⟩) hP hS hA (fun H locs hP hS => ?_)
  refine lv_if_eq (tgt := 21) hx hb dX4_walk_4 (by decide) (fun c_1 => ?_) (fun c_1 => ?_)
  · skip
    exact absurd c_1 (by decide)
  · skip
    refine lv_iload_n hx hb dX4_walk_7 rfl (lv_at hl 2 rfl) ?_
    refine goI0 (va_runS (As := [.int x]) (rest := []) ⟨hx, hb, hml, hown, hts⟩ (CtI.use (c_X4_isPuddle_out l G ca x hx0) H.size) (va_cwS 1 hts gX4_walk_X4_isPuddle rfl rfl rfl (by decide +kernel) ⟨Nat.le_of_ble_eq_true rfl, Nat.le_of_ble_eq_true rfl⟩) (pcW_S hev P_nil (D_nil (A := A))) rfl rfl hl.1 rfl (lv_room (Nat.le_of_ble_eq_true rfl)) dX4_walk_8 ⟨Nat.zero_le _, Nat.zero_le _⟩) hP hS hA (fun H locs hP hS => ?_)
    refine lv_if_eq (tgt := 21) hx hb dX4_walk_11 (by decide) (fun c_2 => ?_) (fun c_2 => ?_)
    · skip
      refine lv_iconst (v := (-1)) hx hb dX4_walk_21 (by decide) ?_
      exact hret _ _ _ _ hP hS dX4_walk_22
    · skip
      exact absurd (by decide) c_2
set_option maxHeartbeats 4000000 in
set_option maxRecDepth 100000 in
theorem c_X4_walk_outt (l : Launch) (G : va_G) (ca : Nat → ClassId) (xo sl : Nat) (hp ap : Nat) (g : Nat → Int32) (np : Nat) (hh ka : Nat) (n : Nat) (rf : Nat → Option Nat) (kj : Nat) (bj : Nat → Nat) (T : SS) (h : Nat) (a : Nat → Nat) (S : SS) (O : va_W) (Z : va_W) (w : Nat) (f : Nat) (x : Int32) (hw : w < 6) (hf : f < 12) (hx0 : x < 0 ∨ nI 12 ≤ x) : CtI l yX4_walk wsX4_walk ({ frames := 1, cells := 0, slots := 0, locals := 20 }) [.ref xo, .int (nI w), .int (nI f), .int x] G ca ((xoT xo h hp hh sl) ++ ((paT ca hp ap (g, nI np)) ++ ((hiT ca hh ka (nI n) rf) ++ ((stT ca kj bj T) ++ ((stT ca h a S) ++ (O ++ Z)))))) ((xoT xo h hp hh sl) ++ ((paT ca hp ap (g, nI np)) ++ ((hiT ca hh ka (nI n) rf) ++ ((stT ca kj bj T) ++ ((stT ca h a S) ++ (O ++ Z)))))) (-1) := by
  refine CtI.ofW (cc := cX4_walk) (maxL := 6) (rt := .int) (by decide) rfl (Nat.le_of_ble_eq_true rfl) rfl ?_
  intro pr en s m be me c A ls Q H hx hb hml hts hown hev hP hD hA hS hl hret
  have hown : s.vm.findClass RX4 = some m.cls := hown
  have hl : lv_has ls 6 [(0, .ref xo), (1, .int (nI w)), (2, .int (nI f)), (3, .int x)] := hl
  have in_wsX40 : ∀ w ∈ wsX40, w ∈ wsX4_walk := fun _ h => List.mem_cons_of_mem _ (List.mem_append_left _ (List.mem_append_left _ (List.mem_append_right _ h)))
  have in_wsX00 : ∀ w ∈ wsX00, w ∈ wsX4_walk := fun _ h => List.mem_cons_of_mem _ (List.mem_append_left _ (List.mem_append_right _ h))
  have in_wsX30 : ∀ w ∈ wsX30, w ∈ wsX4_walk := fun _ h => List.mem_cons_of_mem _ (List.mem_append_right _ h)
  refine lv_iload_n hx hb dX4_walk_0 rfl (lv_at hl 1 rfl) ?_
  refine goI0 (va_runS (As := [.int (nI w)]) (rest := []) ⟨hx, hb, hml, hown, hts⟩ (CtI.use (c_X4_isWalker_in l G ca w (by omega)) H.size) (va_cwS 1 hts gX4_walk_X4_isWalker rfl rfl rfl (by decide +kernel) ⟨Nat.le_of_ble_eq_true rfl, Nat.le_of_ble_eq_true rfl⟩) (pcW_S hev P_nil (D_nil (A := A))) rfl rfl hl.1 rfl (lv_room (Nat.le_of_ble_eq_true rfl)) dX4_walk_1 ⟨Nat.zero_le _, Nat.zero_le _⟩) hP hS hA (fun H locs hP hS => ?_)
  refine lv_if_eq (tgt := 21) hx hb dX4_walk_4 (by decide) (fun c_1 => ?_) (fun c_1 => ?_)
  · skip
    exact absurd c_1 (by decide)
  · skip
    refine lv_iload_n hx hb dX4_walk_7 rfl (lv_at hl 2 rfl) ?_
    refine goI0 (va_runS (As := [.int (nI f)]) (rest := []) ⟨hx, hb, hml, hown, hts⟩ (CtI.use (c_X4_isPuddle_in l G ca f (by omega)) H.size) (va_cwS 1 hts gX4_walk_X4_isPuddle rfl rfl rfl (by decide +kernel) ⟨Nat.le_of_ble_eq_true rfl, Nat.le_of_ble_eq_true rfl⟩) (pcW_S hev P_nil (D_nil (A := A))) rfl rfl hl.1 rfl (lv_room (Nat.le_of_ble_eq_true rfl)) dX4_walk_8 ⟨Nat.zero_le _, Nat.zero_le _⟩) hP hS hA (fun H locs hP hS => ?_)
    refine lv_if_eq (tgt := 21) hx hb dX4_walk_11 (by decide) (fun c_2 => ?_) (fun c_2 => ?_)
    · skip
      exact absurd c_2 (by decide)
    · skip
      refine lv_iload_n hx hb dX4_walk_14 rfl (lv_at hl 3 rfl) ?_
      refine goI0 (va_runS (As := [.int x]) (rest := []) ⟨hx, hb, hml, hown, hts⟩ (CtI.use (c_X4_isPuddle_out l G ca x hx0) H.size) (va_cwS 1 hts gX4_walk_X4_isPuddle rfl rfl rfl (by decide +kernel) ⟨Nat.le_of_ble_eq_true rfl, Nat.le_of_ble_eq_true rfl⟩) (pcW_S hev P_nil (D_nil (A := A))) rfl rfl hl.1 rfl (lv_room (Nat.le_of_ble_eq_true rfl)) dX4_walk_15 ⟨Nat.zero_le _, Nat.zero_le _⟩) hP hS hA (fun H locs hP hS => ?_)
      refine lv_if_ne (tgt := 23) hx hb dX4_walk_18 (by decide) (fun c_3 => ?_) (fun c_3 => ?_)
      · skip
        exact absurd (by decide) c_3
      · skip
        refine lv_iconst (v := (-1)) hx hb dX4_walk_21 (by decide) ?_
        exact hret _ _ _ _ hP hS dX4_walk_22
set_option maxHeartbeats 4000000 in
set_option maxRecDepth 100000 in
theorem c_X4_walk_ok (l : Launch) (G : va_G) (ca : Nat → ClassId) (xo sl : Nat) (hp ap : Nat) (g : Nat → Int32) (np : Nat) (hh ka : Nat) (n : Nat) (rf : Nat → Option Nat) (kj : Nat) (bj : Nat → Nat) (T : SS) (h : Nat) (a : Nat → Nat) (S : SS) (O : va_W) (Z : va_W) (w : Nat) (f : Nat) (t : Nat) (hn6 : n ≤ 6) (hkj : recT n rf = some kj) (hob : ∀ i, i < 6 → ∃ (v x : Nat) (y : List Value), rf i = some v ∧ (hiT ca hh ka (nI n) rf ++ (stT ca kj bj T ++ (stT ca h a S ++ O)))[x]? = some (v, .inr (3, y))) (hw : w < 6) (hf : f < 12) (ht : t < 12) : CtI l yX4_walk wsX4_walk ({ frames := 5, cells := 0, slots := 0, locals := 114 }) [.ref xo, .int (nI w), .int (nI f), .int (nI t)] G ca ((xoT xo h hp hh sl) ++ ((paT ca hp ap (g, nI np)) ++ ((hiT ca hh ka (nI n) rf) ++ ((stT ca kj bj T) ++ ((stT ca h a S) ++ (O ++ Z)))))) ((xoT xo h hp hh sl) ++ ((paT ca hp ap (g, nI np)) ++ ((hiT ca hh ka (nI (recN n)) (recR n rf)) ++ ((stT ca kj bj S) ++ ((stT ca h a (crS S w f t (stU S w f t))) ++ (O ++ Z)))))) (nI (stU S w f t)) := by
  refine CtI.ofW (cc := cX4_walk) (maxL := 6) (rt := .int) (by decide) rfl (Nat.le_of_ble_eq_true rfl) rfl ?_
  intro pr en s m be me c A ls Q H hx hb hml hts hown hev hP hD hA hS hl hret
  have hown : s.vm.findClass RX4 = some m.cls := hown
  have hl : lv_has ls 6 [(0, .ref xo), (1, .int (nI w)), (2, .int (nI f)), (3, .int (nI t))] := hl
  have in_wsX40 : ∀ w ∈ wsX40, w ∈ wsX4_walk := fun _ h => List.mem_cons_of_mem _ (List.mem_append_left _ (List.mem_append_left _ (List.mem_append_right _ h)))
  have in_wsX00 : ∀ w ∈ wsX00, w ∈ wsX4_walk := fun _ h => List.mem_cons_of_mem _ (List.mem_append_left _ (List.mem_append_right _ h))
  have in_wsX30 : ∀ w ∈ wsX30, w ∈ wsX4_walk := fun _ h => List.mem_cons_of_mem _ (List.mem_append_right _ h)
  have hst := stU_le S w f t
  refine lv_iload_n hx hb dX4_walk_0 rfl (lv_at hl 1 rfl) ?_
  refine goI0 (va_runS (As := [.int (nI w)]) (rest := []) ⟨hx, hb, hml, hown, hts⟩ (CtI.use (c_X4_isWalker_in l G ca w (by omega)) H.size) (va_cwS 1 hts gX4_walk_X4_isWalker rfl rfl rfl (by decide +kernel) ⟨Nat.le_of_ble_eq_true rfl, Nat.le_of_ble_eq_true rfl⟩) (pcW_S hev P_nil (D_nil (A := A))) rfl rfl hl.1 rfl (lv_room (Nat.le_of_ble_eq_true rfl)) dX4_walk_1 ⟨Nat.zero_le _, Nat.zero_le _⟩) hP hS hA (fun H locs hP hS => ?_)
  refine lv_if_eq (tgt := 21) hx hb dX4_walk_4 (by decide) (fun c_1 => ?_) (fun c_1 => ?_)
  · skip
    exact absurd c_1 (by decide)
  · skip
    refine lv_iload_n hx hb dX4_walk_7 rfl (lv_at hl 2 rfl) ?_
    refine goI0 (va_runS (As := [.int (nI f)]) (rest := []) ⟨hx, hb, hml, hown, hts⟩ (CtI.use (c_X4_isPuddle_in l G ca f (by omega)) H.size) (va_cwS 1 hts gX4_walk_X4_isPuddle rfl rfl rfl (by decide +kernel) ⟨Nat.le_of_ble_eq_true rfl, Nat.le_of_ble_eq_true rfl⟩) (pcW_S hev P_nil (D_nil (A := A))) rfl rfl hl.1 rfl (lv_room (Nat.le_of_ble_eq_true rfl)) dX4_walk_8 ⟨Nat.zero_le _, Nat.zero_le _⟩) hP hS hA (fun H locs hP hS => ?_)
    refine lv_if_eq (tgt := 21) hx hb dX4_walk_11 (by decide) (fun c_2 => ?_) (fun c_2 => ?_)
    · skip
      exact absurd c_2 (by decide)
    · skip
      refine lv_iload_n hx hb dX4_walk_14 rfl (lv_at hl 3 rfl) ?_
      refine goI0 (va_runS (As := [.int (nI t)]) (rest := []) ⟨hx, hb, hml, hown, hts⟩ (CtI.use (c_X4_isPuddle_in l G ca t (by omega)) H.size) (va_cwS 1 hts gX4_walk_X4_isPuddle rfl rfl rfl (by decide +kernel) ⟨Nat.le_of_ble_eq_true rfl, Nat.le_of_ble_eq_true rfl⟩) (pcW_S hev P_nil (D_nil (A := A))) rfl rfl hl.1 rfl (lv_room (Nat.le_of_ble_eq_true rfl)) dX4_walk_15 ⟨Nat.zero_le _, Nat.zero_le _⟩) hP hS hA (fun H locs hP hS => ?_)
      refine lv_if_ne (tgt := 23) hx hb dX4_walk_18 (by decide) (fun c_3 => ?_) (fun c_3 => ?_)
      · skip
        refine lv_aload_n hx hb dX4_walk_23 rfl (lv_at hl 0 rfl) ?_
        refine va_get (D := G) (ci := 4) (v := .ref hh) (C := RX4) (T := TX4) (N := 4) hx hb hts in_wsX40 hown hev.1 hP 0 rfl rfl 2 (by decide) (hts (.fieldLink RX4 26 "PuddleMinistries" "history" "LPuddleMinistries$History;") (List.mem_of_getElem? (i := 1) rfl)) (fun _ h9 => h9) rfl dX4_walk_24 ?_
        refine lv_aload_n hx hb dX4_walk_27 rfl (lv_at hl 0 rfl) ?_
        refine va_get (D := G) (ci := 4) (v := .ref h) (C := RX4) (T := TX4) (N := 4) hx hb hts in_wsX40 hown hev.1 hP 0 rfl rfl 0 (by decide) (hts (.fieldLink RX4 10 "PuddleMinistries" "street" "LPuddleMinistries$Street;") (List.mem_of_getElem? (i := 2) rfl)) (fun _ h9 => h9) rfl dX4_walk_28 ?_
        have hP : va_P G vwCl (((xoT xo h hp hh sl) ++ (paT ca hp ap (g, nI np))) ++ (((hiT ca hh ka (nI n) rf) ++ ((stT ca kj bj T) ++ ((stT ca h a S) ++ O))) ++ Z)) H := hP
        have hD : va_D A (((xoT xo h hp hh sl) ++ (paT ca hp ap (g, nI np))) ++ (((hiT ca hh ka (nI n) rf) ++ ((stT ca kj bj T) ++ ((stT ca h a S) ++ O))) ++ Z)) := hD
        refine goV (va_runV (As := [.ref h]) (rest := []) ⟨hx, hb, hml, hown, hts⟩ (CtV.use (c_X0_record l G ca hh ka n rf kj bj T h a S O hn6 hkj hob) H.size) (cwV 1 hts gX4_walk_X0_record rfl rfl rfl (by decide +kernel) ⟨Nat.le_of_ble_eq_true rfl, Nat.le_of_ble_eq_true rfl⟩) (pcW_V hev (P_left (P_right hP)) (D_left (D_right hD)) (q0 := 0) rfl rfl rfl) rfl rfl hl.1 rfl (lv_room (Nat.le_of_ble_eq_true rfl)) dX4_walk_31 ⟨Nat.zero_le _, Nat.zero_le _⟩) hP hD hS hA (app_F hiF (app_F stF (app_F stF rfl))) (fun H locs hP hD hS => ?_)
        have hP : va_P G vwCl ((xoT xo h hp hh sl) ++ ((paT ca hp ap (g, nI np)) ++ ((hiT ca hh ka (nI (recN n)) (recR n rf)) ++ ((stT ca kj bj S) ++ ((stT ca h a S) ++ (O ++ Z)))))) H := hP
        have hD : va_D A ((xoT xo h hp hh sl) ++ ((paT ca hp ap (g, nI np)) ++ ((hiT ca hh ka (nI (recN n)) (recR n rf)) ++ ((stT ca kj bj S) ++ ((stT ca h a S) ++ (O ++ Z)))))) := hD
        refine lv_aload_n hx hb dX4_walk_34 rfl (lv_at hl 0 rfl) ?_
        refine va_get (D := G) (ci := 4) (v := .ref h) (C := RX4) (T := TX4) (N := 4) hx hb hts in_wsX40 hown hev.1 hP 0 rfl rfl 0 (by decide) (hts (.fieldLink RX4 10 "PuddleMinistries" "street" "LPuddleMinistries$Street;") (List.mem_of_getElem? (i := 2) rfl)) (fun _ h9 => h9) rfl dX4_walk_35 ?_
        refine lv_iload_n hx hb dX4_walk_38 rfl (lv_at hl 1 rfl) ?_
        refine lv_iload_n hx hb dX4_walk_39 rfl (lv_at hl 2 rfl) ?_
        refine lv_iload_n hx hb dX4_walk_40 rfl (lv_at hl 3 rfl) ?_
        have hP : va_P G vwCl (((xoT xo h hp hh sl) ++ ((paT ca hp ap (g, nI np)) ++ ((hiT ca hh ka (nI (recN n)) (recR n rf)) ++ (stT ca kj bj S)))) ++ ((stT ca h a S) ++ (O ++ Z))) H := hP
        have hD : va_D A (((xoT xo h hp hh sl) ++ ((paT ca hp ap (g, nI np)) ++ ((hiT ca hh ka (nI (recN n)) (recR n rf)) ++ (stT ca kj bj S)))) ++ ((stT ca h a S) ++ (O ++ Z))) := hD
        refine goI (va_runV (As := [.int (nI w), .int (nI f), .int (nI t)]) (rest := []) ⟨hx, hb, hml, hown, hts⟩ (CtI.use (c_X3_stepsUntilBlocked l G ca h a S w f t (by omega) (by omega) (by omega)) H.size) (cwV 3 hts gX4_walk_X3_stepsUntilBlocked rfl rfl rfl (by decide +kernel) ⟨Nat.le_of_ble_eq_true rfl, Nat.le_of_ble_eq_true rfl⟩) (pcW_V hev (P_left (P_right hP)) (D_left (D_right hD)) (q0 := 0) rfl rfl rfl) rfl rfl hl.1 rfl (lv_room (Nat.le_of_ble_eq_true rfl)) dX4_walk_41 ⟨Nat.zero_le _, Nat.zero_le _⟩) hP hD hS hA stF (fun H locs hP hD hS => ?_)
        have hP : va_P G vwCl ((xoT xo h hp hh sl) ++ ((paT ca hp ap (g, nI np)) ++ ((hiT ca hh ka (nI (recN n)) (recR n rf)) ++ ((stT ca kj bj S) ++ ((stT ca h a S) ++ (O ++ Z)))))) H := hP
        have hD : va_D A ((xoT xo h hp hh sl) ++ ((paT ca hp ap (g, nI np)) ++ ((hiT ca hh ka (nI (recN n)) (recR n rf)) ++ ((stT ca kj bj S) ++ ((stT ca h a S) ++ (O ++ Z)))))) := hD
        refine lv_istore (lv' := [(4, .int (nI (stU S w f t))), (0, .ref xo), (1, .int (nI w)), (2, .int (nI f)), (3, .int (nI t))]) hx hb dX4_walk_44 hl (by decide) rfl (fun ls hl => ?_)
        refine lv_iconst (v := nI 0) hx hb dX4_walk_46 (by decide) ?_
        refine lv_istore (lv' := [(5, .int (nI 0)), (4, .int (nI (stU S w f t))), (0, .ref xo), (1, .int (nI w)), (2, .int (nI f)), (3, .int (nI t))]) hx hb dX4_walk_47 hl (by decide) rfl (fun ls hl => ?_)
        have loop_49 : ∀ (fu i : Nat), i + fu = stU S w f t → ∀ (H : Heap) (locs : List Loc) (ls : Array Slot), va_P G vwCl ((xoT xo h hp hh sl) ++ ((paT ca hp ap (g, nI np)) ++ ((hiT ca hh ka (nI (recN n)) (recR n rf)) ++ ((stT ca kj bj S) ++ ((stT ca h a (crS S w f t i)) ++ (O ++ Z)))))) H → va_D A ((xoT xo h hp hh sl) ++ ((paT ca hp ap (g, nI np)) ++ ((hiT ca hh ka (nI (recN n)) (recR n rf)) ++ ((stT ca kj bj S) ++ ((stT ca h a (crS S w f t i)) ++ (O ++ Z)))))) → va_S A s.heap H locs → lv_has ls 6 [(0, .ref xo), (1, .int (nI w)), (2, .int (nI f)), (3, .int (nI t)), (4, .int (nI (stU S w f t))), (5, .int (nI i))] → W pr l en ({ frames := 5, cells := 0, slots := 0, locals := 114 } : Room) s m ([.ref xo, .int (nI w), .int (nI f), .int (nI t)] : List Value).toArray be me c H locs 0 0 Q (F0 m 49 ls []) := by
          intro fu
          induction fu with
          | zero =>
            intro i hi H locs ls hP hD hS hl
            obtain rfl : i = stU S w f t := by omega
            refine lv_iload hx hb dX4_walk_49 (lv_at hl 5 rfl) ?_
            refine lv_iload hx hb dX4_walk_51 (lv_at hl 4 rfl) ?_
            refine lv_icmp_ge (tgt := 77) hx hb dX4_walk_53 (by decide) (fun c_4 => ?_) (fun c_4 => ?_)
            · skip
              refine lv_iload hx hb dX4_walk_77 (lv_at hl 4 rfl) ?_
              exact hret _ _ _ _ hP hS dX4_walk_79
            · skip
              exact absurd (nI_le (by omega) (by omega)) c_4
          | succ fu ih =>
            intro i hi H locs ls hP hD hS hl
            have hlt : i < stU S w f t := by omega
            refine lv_iload hx hb dX4_walk_49 (lv_at hl 5 rfl) ?_
            refine lv_iload hx hb dX4_walk_51 (lv_at hl 4 rfl) ?_
            refine lv_icmp_ge (tgt := 77) hx hb dX4_walk_53 (by decide) (fun c_5 => ?_) (fun c_5 => ?_)
            · skip
              exact absurd c_5 (nI_ge (by omega) (by omega))
            · skip
              refine lv_aload_n hx hb dX4_walk_56 rfl (lv_at hl 0 rfl) ?_
              refine va_get (D := G) (ci := 4) (v := .ref h) (C := RX4) (T := TX4) (N := 4) hx hb hts in_wsX40 hown hev.1 hP 0 rfl rfl 0 (by decide) (hts (.fieldLink RX4 10 "PuddleMinistries" "street" "LPuddleMinistries$Street;") (List.mem_of_getElem? (i := 2) rfl)) (fun _ h9 => h9) rfl dX4_walk_57 ?_
              refine lv_iload_n hx hb dX4_walk_60 rfl (lv_at hl 1 rfl) ?_
              refine lv_iload hx hb dX4_walk_61 (lv_at hl 5 rfl) ?_
              refine lv_iload_n hx hb dX4_walk_63 rfl (lv_at hl 2 rfl) ?_
              refine lv_iload_n hx hb dX4_walk_64 rfl (lv_at hl 3 rfl) ?_
              refine goI0 (va_runS (As := [.int (nI i), .int (nI f), .int (nI t)]) (rest := [.int (nI w), .ref h]) ⟨hx, hb, hml, hown, hts⟩ (CtI.use (c_X4_placeAfter l G ca i f t (by omega) (by omega) (by omega)) H.size) (va_cwS 3 hts gX4_walk_X4_placeAfter rfl rfl rfl (by decide +kernel) ⟨Nat.le_of_ble_eq_true rfl, Nat.le_of_ble_eq_true rfl⟩) (pcW_S hev P_nil (D_nil (A := A))) rfl rfl hl.1 rfl (lv_room (Nat.le_of_ble_eq_true rfl)) dX4_walk_65 ⟨Nat.zero_le _, Nat.zero_le _⟩) hP hS hA (fun H locs hP hS => ?_)
              have hP : va_P G vwCl (((xoT xo h hp hh sl) ++ ((paT ca hp ap (g, nI np)) ++ ((hiT ca hh ka (nI (recN n)) (recR n rf)) ++ (stT ca kj bj S)))) ++ ((stT ca h a (crS S w f t i)) ++ (O ++ Z))) H := hP
              have hD : va_D A (((xoT xo h hp hh sl) ++ ((paT ca hp ap (g, nI np)) ++ ((hiT ca hh ka (nI (recN n)) (recR n rf)) ++ (stT ca kj bj S)))) ++ ((stT ca h a (crS S w f t i)) ++ (O ++ Z))) := hD
              refine goV (va_runV (As := [.int (nI w), .int (nI (plc i f t))]) (rest := []) ⟨hx, hb, hml, hown, hts⟩ (CtV.use (c_X3_cross l G ca h a (crS S w f t i) w (plc i f t) (by omega) (plc_lt _ _ _ (by omega) (by omega) (by omega))) H.size) (cwV 2 hts gX4_walk_X3_cross rfl rfl rfl (by decide +kernel) ⟨Nat.le_of_ble_eq_true rfl, Nat.le_of_ble_eq_true rfl⟩) (pcW_V hev (P_left (P_right hP)) (D_left (D_right hD)) (q0 := 0) rfl rfl rfl) rfl rfl hl.1 rfl (lv_room (Nat.le_of_ble_eq_true rfl)) dX4_walk_68 ⟨Nat.zero_le _, Nat.zero_le _⟩) hP hD hS hA stF (fun H locs hP hD hS => ?_)
              have hP : va_P G vwCl ((xoT xo h hp hh sl) ++ ((paT ca hp ap (g, nI np)) ++ ((hiT ca hh ka (nI (recN n)) (recR n rf)) ++ ((stT ca kj bj S) ++ ((stT ca h a (s_se (crS S w f t i), s_br (crS S w f t i), s_wa (crS S w f t i), upd ((s_cr (crS S w f t i))) (plc i f t) ((s_cr (crS S w f t i)) (plc i f t) + 1), s_sh (crS S w f t i), upd ((s_ow (crS S w f t i))) w ((s_ow (crS S w f t i)) w + dutyA (crS S w f t i) (plc i f t)), s_pa (crS S w f t i), upd ((s_cb (crS S w f t i))) w ((s_cb (crS S w f t i)) w + 1), s_pd (crS S w f t i), s_fz (crS S w f t i), s_dk (crS S w f t i), s_dy (crS S w f t i), s_fe (crS S w f t i), s_dr (crS S w f t i), s_dn (crS S w f t i))) ++ (O ++ Z)))))) H := hP
              have hD : va_D A ((xoT xo h hp hh sl) ++ ((paT ca hp ap (g, nI np)) ++ ((hiT ca hh ka (nI (recN n)) (recR n rf)) ++ ((stT ca kj bj S) ++ ((stT ca h a (s_se (crS S w f t i), s_br (crS S w f t i), s_wa (crS S w f t i), upd ((s_cr (crS S w f t i))) (plc i f t) ((s_cr (crS S w f t i)) (plc i f t) + 1), s_sh (crS S w f t i), upd ((s_ow (crS S w f t i))) w ((s_ow (crS S w f t i)) w + dutyA (crS S w f t i) (plc i f t)), s_pa (crS S w f t i), upd ((s_cb (crS S w f t i))) w ((s_cb (crS S w f t i)) w + 1), s_pd (crS S w f t i), s_fz (crS S w f t i), s_dk (crS S w f t i), s_dy (crS S w f t i), s_fe (crS S w f t i), s_dr (crS S w f t i), s_dn (crS S w f t i))) ++ (O ++ Z)))))) := hD
              refine lv_iinc (v := nI (i + 1)) (lv' := [(5, .int (nI (i + 1))), (0, .ref xo), (1, .int (nI w)), (2, .int (nI f)), (3, .int (nI t)), (4, .int (nI (stU S w f t)))]) hx hb dX4_walk_71 hl (k := 5) rfl (nI_1 _) (by decide) rfl (fun ls hl => ?_)
              refine lv_goto (tgt := 49) hx hb dX4_walk_74 (by decide) ?_
              exact ih (i + 1) (by omega) _ _ _ (by rw [show (crS S w f t (i + 1)) = (s_se (crS S w f t i), s_br (crS S w f t i), s_wa (crS S w f t i), upd ((s_cr (crS S w f t i))) (plc i f t) ((s_cr (crS S w f t i)) (plc i f t) + 1), s_sh (crS S w f t i), upd ((s_ow (crS S w f t i))) w ((s_ow (crS S w f t i)) w + dutyA (crS S w f t i) (plc i f t)), s_pa (crS S w f t i), upd ((s_cb (crS S w f t i))) w ((s_cb (crS S w f t i)) w + 1), s_pd (crS S w f t i), s_fz (crS S w f t i), s_dk (crS S w f t i), s_dy (crS S w f t i), s_fe (crS S w f t i), s_dr (crS S w f t i), s_dn (crS S w f t i)) from by rfl]; exact hP) (D_of hD (app_F rfl (app_F paF (app_F hiF (app_F stF (app_F stF (app_F rfl rfl))))))) hS (lv_sub hl [1, 2, 3, 4, 5, 0] rfl)
        exact loop_49 (stU S w f t) 0 (by omega) _ _ _ hP (D_of hD (app_F rfl (app_F paF (app_F hiF (app_F stF (app_F stF (app_F rfl rfl))))))) hS (lv_sub hl [2, 3, 4, 5, 1, 0] rfl)
      · skip
        exact absurd c_3 (by decide)
set_option maxHeartbeats 4000000 in
set_option maxRecDepth 100000 in
theorem c_X4_cost_outw (l : Launch) (G : va_G) (ca : Nat → ClassId) (xo sl : Nat) (hp ap : Nat) (g : Nat → Int32) (np : Nat) (hh ka : Nat) (n : Nat) (rf : Nat → Option Nat) (kj : Nat) (bj : Nat → Nat) (T : SS) (h : Nat) (a : Nat → Nat) (S : SS) (O : va_W) (Z : va_W) (x : Int32) (v : Int32) (y : Int32) (u : Int32) (hx0 : x < 0 ∨ nI 6 ≤ x) : CtI l yX4_cost wsX4_cost ({ frames := 1, cells := 0, slots := 0, locals := 20 }) [.ref xo, .int x, .int v, .int y, .int u] G ca ((xoT xo h hp hh sl) ++ ((paT ca hp ap (g, nI np)) ++ ((hiT ca hh ka (nI n) rf) ++ ((stT ca kj bj T) ++ ((stT ca h a S) ++ (O ++ Z)))))) ((xoT xo h hp hh sl) ++ ((paT ca hp ap (g, nI np)) ++ ((hiT ca hh ka (nI n) rf) ++ ((stT ca kj bj T) ++ ((stT ca h a S) ++ (O ++ Z)))))) (-1) := by
  refine CtI.ofW (cc := cX4_cost) (maxL := 5) (rt := .int) (by decide) rfl (Nat.le_of_ble_eq_true rfl) rfl ?_
  intro pr en s m be me c A ls Q H hx hb hml hts hown hev hP hD hA hS hl hret
  have hown : s.vm.findClass RX4 = some m.cls := hown
  have hl : lv_has ls 5 [(0, .ref xo), (1, .int x), (2, .int v), (3, .int y), (4, .int u)] := hl
  have in_wsX40 : ∀ w ∈ wsX40, w ∈ wsX4_cost := fun _ h => List.mem_cons_of_mem _ (List.mem_append_left _ (List.mem_append_right _ h))
  have in_wsX30 : ∀ w ∈ wsX30, w ∈ wsX4_cost := fun _ h => List.mem_cons_of_mem _ (List.mem_append_right _ h)
  refine lv_iload_n hx hb dX4_cost_0 rfl (lv_at hl 1 rfl) ?_
  refine goI0 (va_runS (As := [.int x]) (rest := []) ⟨hx, hb, hml, hown, hts⟩ (CtI.use (c_X4_isWalker_out l G ca x hx0) H.size) (va_cwS 1 hts gX4_cost_X4_isWalker rfl rfl rfl (by decide +kernel) ⟨Nat.le_of_ble_eq_true rfl, Nat.le_of_ble_eq_true rfl⟩) (pcW_S hev P_nil (D_nil (A := A))) rfl rfl hl.1 rfl (lv_room (Nat.le_of_ble_eq_true rfl)) dX4_cost_1 ⟨Nat.zero_le _, Nat.zero_le _⟩) hP hS hA (fun H locs hP hS => ?_)
  refine lv_if_eq (tgt := 21) hx hb dX4_cost_4 (by decide) (fun c_1 => ?_) (fun c_1 => ?_)
  · skip
    refine lv_iconst (v := (-1)) hx hb dX4_cost_21 (by decide) ?_
    exact hret _ _ _ _ hP hS dX4_cost_22
  · skip
    exact absurd (by decide) c_1
set_option maxHeartbeats 4000000 in
set_option maxRecDepth 100000 in
theorem c_X4_cost_outf (l : Launch) (G : va_G) (ca : Nat → ClassId) (xo sl : Nat) (hp ap : Nat) (g : Nat → Int32) (np : Nat) (hh ka : Nat) (n : Nat) (rf : Nat → Option Nat) (kj : Nat) (bj : Nat → Nat) (T : SS) (h : Nat) (a : Nat → Nat) (S : SS) (O : va_W) (Z : va_W) (w : Nat) (x : Int32) (y : Int32) (u : Int32) (hw : w < 6) (hx0 : x < 0 ∨ nI 12 ≤ x) : CtI l yX4_cost wsX4_cost ({ frames := 1, cells := 0, slots := 0, locals := 20 }) [.ref xo, .int (nI w), .int x, .int y, .int u] G ca ((xoT xo h hp hh sl) ++ ((paT ca hp ap (g, nI np)) ++ ((hiT ca hh ka (nI n) rf) ++ ((stT ca kj bj T) ++ ((stT ca h a S) ++ (O ++ Z)))))) ((xoT xo h hp hh sl) ++ ((paT ca hp ap (g, nI np)) ++ ((hiT ca hh ka (nI n) rf) ++ ((stT ca kj bj T) ++ ((stT ca h a S) ++ (O ++ Z)))))) (-1) := by
  refine CtI.ofW (cc := cX4_cost) (maxL := 5) (rt := .int) (by decide) rfl (Nat.le_of_ble_eq_true rfl) rfl ?_
  intro pr en s m be me c A ls Q H hx hb hml hts hown hev hP hD hA hS hl hret
  have hown : s.vm.findClass RX4 = some m.cls := hown
  have hl : lv_has ls 5 [(0, .ref xo), (1, .int (nI w)), (2, .int x), (3, .int y), (4, .int u)] := hl
  have in_wsX40 : ∀ w ∈ wsX40, w ∈ wsX4_cost := fun _ h => List.mem_cons_of_mem _ (List.mem_append_left _ (List.mem_append_right _ h))
  have in_wsX30 : ∀ w ∈ wsX30, w ∈ wsX4_cost := fun _ h => List.mem_cons_of_mem _ (List.mem_append_right _ h)
  refine lv_iload_n hx hb dX4_cost_0 rfl (lv_at hl 1 rfl) ?_
  refine goI0 (va_runS (As := [.int (nI w)]) (rest := []) ⟨hx, hb, hml, hown, hts⟩ (CtI.use (c_X4_isWalker_in l G ca w (by omega)) H.size) (va_cwS 1 hts gX4_cost_X4_isWalker rfl rfl rfl (by decide +kernel) ⟨Nat.le_of_ble_eq_true rfl, Nat.le_of_ble_eq_true rfl⟩) (pcW_S hev P_nil (D_nil (A := A))) rfl rfl hl.1 rfl (lv_room (Nat.le_of_ble_eq_true rfl)) dX4_cost_1 ⟨Nat.zero_le _, Nat.zero_le _⟩) hP hS hA (fun H locs hP hS => ?_)
  refine lv_if_eq (tgt := 21) hx hb dX4_cost_4 (by decide) (fun c_1 => ?_) (fun c_1 => ?_)
  · skip
    exact absurd c_1 (by decide)
  · skip
    refine lv_iload_n hx hb dX4_cost_7 rfl (lv_at hl 2 rfl) ?_
    refine goI0 (va_runS (As := [.int x]) (rest := []) ⟨hx, hb, hml, hown, hts⟩ (CtI.use (c_X4_isPuddle_out l G ca x hx0) H.size) (va_cwS 1 hts gX4_cost_X4_isPuddle rfl rfl rfl (by decide +kernel) ⟨Nat.le_of_ble_eq_true rfl, Nat.le_of_ble_eq_true rfl⟩) (pcW_S hev P_nil (D_nil (A := A))) rfl rfl hl.1 rfl (lv_room (Nat.le_of_ble_eq_true rfl)) dX4_cost_8 ⟨Nat.zero_le _, Nat.zero_le _⟩) hP hS hA (fun H locs hP hS => ?_)
    refine lv_if_eq (tgt := 21) hx hb dX4_cost_11 (by decide) (fun c_2 => ?_) (fun c_2 => ?_)
    · skip
      refine lv_iconst (v := (-1)) hx hb dX4_cost_21 (by decide) ?_
      exact hret _ _ _ _ hP hS dX4_cost_22
    · skip
      exact absurd (by decide) c_2
set_option maxHeartbeats 4000000 in
set_option maxRecDepth 100000 in
theorem c_X4_cost_outt (l : Launch) (G : va_G) (ca : Nat → ClassId) (xo sl : Nat) (hp ap : Nat) (g : Nat → Int32) (np : Nat) (hh ka : Nat) (n : Nat) (rf : Nat → Option Nat) (kj : Nat) (bj : Nat → Nat) (T : SS) (h : Nat) (a : Nat → Nat) (S : SS) (O : va_W) (Z : va_W) (w : Nat) (f : Nat) (x : Int32) (u : Int32) (hw : w < 6) (hf : f < 12) (hx0 : x < 0 ∨ nI 12 ≤ x) : CtI l yX4_cost wsX4_cost ({ frames := 1, cells := 0, slots := 0, locals := 20 }) [.ref xo, .int (nI w), .int (nI f), .int x, .int u] G ca ((xoT xo h hp hh sl) ++ ((paT ca hp ap (g, nI np)) ++ ((hiT ca hh ka (nI n) rf) ++ ((stT ca kj bj T) ++ ((stT ca h a S) ++ (O ++ Z)))))) ((xoT xo h hp hh sl) ++ ((paT ca hp ap (g, nI np)) ++ ((hiT ca hh ka (nI n) rf) ++ ((stT ca kj bj T) ++ ((stT ca h a S) ++ (O ++ Z)))))) (-1) := by
  refine CtI.ofW (cc := cX4_cost) (maxL := 5) (rt := .int) (by decide) rfl (Nat.le_of_ble_eq_true rfl) rfl ?_
  intro pr en s m be me c A ls Q H hx hb hml hts hown hev hP hD hA hS hl hret
  have hown : s.vm.findClass RX4 = some m.cls := hown
  have hl : lv_has ls 5 [(0, .ref xo), (1, .int (nI w)), (2, .int (nI f)), (3, .int x), (4, .int u)] := hl
  have in_wsX40 : ∀ w ∈ wsX40, w ∈ wsX4_cost := fun _ h => List.mem_cons_of_mem _ (List.mem_append_left _ (List.mem_append_right _ h))
  have in_wsX30 : ∀ w ∈ wsX30, w ∈ wsX4_cost := fun _ h => List.mem_cons_of_mem _ (List.mem_append_right _ h)
  refine lv_iload_n hx hb dX4_cost_0 rfl (lv_at hl 1 rfl) ?_
  refine goI0 (va_runS (As := [.int (nI w)]) (rest := []) ⟨hx, hb, hml, hown, hts⟩ (CtI.use (c_X4_isWalker_in l G ca w (by omega)) H.size) (va_cwS 1 hts gX4_cost_X4_isWalker rfl rfl rfl (by decide +kernel) ⟨Nat.le_of_ble_eq_true rfl, Nat.le_of_ble_eq_true rfl⟩) (pcW_S hev P_nil (D_nil (A := A))) rfl rfl hl.1 rfl (lv_room (Nat.le_of_ble_eq_true rfl)) dX4_cost_1 ⟨Nat.zero_le _, Nat.zero_le _⟩) hP hS hA (fun H locs hP hS => ?_)
  refine lv_if_eq (tgt := 21) hx hb dX4_cost_4 (by decide) (fun c_1 => ?_) (fun c_1 => ?_)
  · skip
    exact absurd c_1 (by decide)
  · skip
    refine lv_iload_n hx hb dX4_cost_7 rfl (lv_at hl 2 rfl) ?_
    refine goI0 (va_runS (As := [.int (nI f)]) (rest := []) ⟨hx, hb, hml, hown, hts⟩ (CtI.use (c_X4_isPuddle_in l G ca f (by omega)) H.size) (va_cwS 1 hts gX4_cost_X4_isPuddle rfl rfl rfl (by decide +kernel) ⟨Nat.le_of_ble_eq_true rfl, Nat.le_of_ble_eq_true rfl⟩) (pcW_S hev P_nil (D_nil (A := A))) rfl rfl hl.1 rfl (lv_room (Nat.le_of_ble_eq_true rfl)) dX4_cost_8 ⟨Nat.zero_le _, Nat.zero_le _⟩) hP hS hA (fun H locs hP hS => ?_)
    refine lv_if_eq (tgt := 21) hx hb dX4_cost_11 (by decide) (fun c_2 => ?_) (fun c_2 => ?_)
    · skip
      exact absurd c_2 (by decide)
    · skip
      refine lv_iload_n hx hb dX4_cost_14 rfl (lv_at hl 3 rfl) ?_
      refine goI0 (va_runS (As := [.int x]) (rest := []) ⟨hx, hb, hml, hown, hts⟩ (CtI.use (c_X4_isPuddle_out l G ca x hx0) H.size) (va_cwS 1 hts gX4_cost_X4_isPuddle rfl rfl rfl (by decide +kernel) ⟨Nat.le_of_ble_eq_true rfl, Nat.le_of_ble_eq_true rfl⟩) (pcW_S hev P_nil (D_nil (A := A))) rfl rfl hl.1 rfl (lv_room (Nat.le_of_ble_eq_true rfl)) dX4_cost_15 ⟨Nat.zero_le _, Nat.zero_le _⟩) hP hS hA (fun H locs hP hS => ?_)
      refine lv_if_ne (tgt := 23) hx hb dX4_cost_18 (by decide) (fun c_3 => ?_) (fun c_3 => ?_)
      · skip
        exact absurd (by decide) c_3
      · skip
        refine lv_iconst (v := (-1)) hx hb dX4_cost_21 (by decide) ?_
        exact hret _ _ _ _ hP hS dX4_cost_22
set_option maxHeartbeats 4000000 in
set_option maxRecDepth 100000 in
theorem c_X4_cost_0 (l : Launch) (G : va_G) (ca : Nat → ClassId) (xo sl : Nat) (hp ap : Nat) (g : Nat → Int32) (np : Nat) (hh ka : Nat) (n : Nat) (rf : Nat → Option Nat) (kj : Nat) (bj : Nat → Nat) (T : SS) (h : Nat) (a : Nat → Nat) (S : SS) (O : va_W) (Z : va_W) (w : Nat) (f : Nat) (t : Nat) (hw : w < 6) (hf : f < 12) (ht : t < 12) : CtI l yX4_cost wsX4_cost ({ frames := 5, cells := 0, slots := 0, locals := 116 }) [.ref xo, .int (nI w), .int (nI f), .int (nI t), .int 0] G ca ((xoT xo h hp hh sl) ++ ((paT ca hp ap (g, nI np)) ++ ((hiT ca hh ka (nI n) rf) ++ ((stT ca kj bj T) ++ ((stT ca h a S) ++ (O ++ Z)))))) ((xoT xo h hp hh sl) ++ ((paT ca hp ap (g, nI np)) ++ ((hiT ca hh ka (nI n) rf) ++ ((stT ca kj bj T) ++ ((stT ca h a S) ++ (O ++ Z)))))) (smD (fun k => dutyA S (plc k f t)) (stU S w f t)) := by
  refine CtI.ofW (cc := cX4_cost) (maxL := 5) (rt := .int) (by decide) rfl (Nat.le_of_ble_eq_true rfl) rfl ?_
  intro pr en s m be me c A ls Q H hx hb hml hts hown hev hP hD hA hS hl hret
  have hown : s.vm.findClass RX4 = some m.cls := hown
  have hl : lv_has ls 5 [(0, .ref xo), (1, .int (nI w)), (2, .int (nI f)), (3, .int (nI t)), (4, .int 0)] := hl
  have in_wsX40 : ∀ w ∈ wsX40, w ∈ wsX4_cost := fun _ h => List.mem_cons_of_mem _ (List.mem_append_left _ (List.mem_append_right _ h))
  have in_wsX30 : ∀ w ∈ wsX30, w ∈ wsX4_cost := fun _ h => List.mem_cons_of_mem _ (List.mem_append_right _ h)
  refine lv_iload_n hx hb dX4_cost_0 rfl (lv_at hl 1 rfl) ?_
  refine goI0 (va_runS (As := [.int (nI w)]) (rest := []) ⟨hx, hb, hml, hown, hts⟩ (CtI.use (c_X4_isWalker_in l G ca w (by omega)) H.size) (va_cwS 1 hts gX4_cost_X4_isWalker rfl rfl rfl (by decide +kernel) ⟨Nat.le_of_ble_eq_true rfl, Nat.le_of_ble_eq_true rfl⟩) (pcW_S hev P_nil (D_nil (A := A))) rfl rfl hl.1 rfl (lv_room (Nat.le_of_ble_eq_true rfl)) dX4_cost_1 ⟨Nat.zero_le _, Nat.zero_le _⟩) hP hS hA (fun H locs hP hS => ?_)
  refine lv_if_eq (tgt := 21) hx hb dX4_cost_4 (by decide) (fun c_1 => ?_) (fun c_1 => ?_)
  · skip
    exact absurd c_1 (by decide)
  · skip
    refine lv_iload_n hx hb dX4_cost_7 rfl (lv_at hl 2 rfl) ?_
    refine goI0 (va_runS (As := [.int (nI f)]) (rest := []) ⟨hx, hb, hml, hown, hts⟩ (CtI.use (c_X4_isPuddle_in l G ca f (by omega)) H.size) (va_cwS 1 hts gX4_cost_X4_isPuddle rfl rfl rfl (by decide +kernel) ⟨Nat.le_of_ble_eq_true rfl, Nat.le_of_ble_eq_true rfl⟩) (pcW_S hev P_nil (D_nil (A := A))) rfl rfl hl.1 rfl (lv_room (Nat.le_of_ble_eq_true rfl)) dX4_cost_8 ⟨Nat.zero_le _, Nat.zero_le _⟩) hP hS hA (fun H locs hP hS => ?_)
    refine lv_if_eq (tgt := 21) hx hb dX4_cost_11 (by decide) (fun c_2 => ?_) (fun c_2 => ?_)
    · skip
      exact absurd c_2 (by decide)
    · skip
      refine lv_iload_n hx hb dX4_cost_14 rfl (lv_at hl 3 rfl) ?_
      refine goI0 (va_runS (As := [.int (nI t)]) (rest := []) ⟨hx, hb, hml, hown, hts⟩ (CtI.use (c_X4_isPuddle_in l G ca t (by omega)) H.size) (va_cwS 1 hts gX4_cost_X4_isPuddle rfl rfl rfl (by decide +kernel) ⟨Nat.le_of_ble_eq_true rfl, Nat.le_of_ble_eq_true rfl⟩) (pcW_S hev P_nil (D_nil (A := A))) rfl rfl hl.1 rfl (lv_room (Nat.le_of_ble_eq_true rfl)) dX4_cost_15 ⟨Nat.zero_le _, Nat.zero_le _⟩) hP hS hA (fun H locs hP hS => ?_)
      refine lv_if_ne (tgt := 23) hx hb dX4_cost_18 (by decide) (fun c_3 => ?_) (fun c_3 => ?_)
      · skip
        refine lv_iload hx hb dX4_cost_23 (lv_at hl 4 rfl) ?_
        refine lv_if_ne (tgt := 39) hx hb dX4_cost_25 (by decide) (fun c_4 => ?_) (fun c_4 => ?_)
        · skip
          exact absurd (by decide) c_4
        · skip
          refine lv_aload_n hx hb dX4_cost_28 rfl (lv_at hl 0 rfl) ?_
          refine va_get (D := G) (ci := 4) (v := .ref h) (C := RX4) (T := TX4) (N := 4) hx hb hts in_wsX40 hown hev.1 hP 0 rfl rfl 0 (by decide) (hts (.fieldLink RX4 10 "PuddleMinistries" "street" "LPuddleMinistries$Street;") (List.mem_of_getElem? (i := 1) rfl)) (fun _ h9 => h9) rfl dX4_cost_29 ?_
          refine lv_iload_n hx hb dX4_cost_32 rfl (lv_at hl 1 rfl) ?_
          refine lv_iload_n hx hb dX4_cost_33 rfl (lv_at hl 2 rfl) ?_
          refine lv_iload_n hx hb dX4_cost_34 rfl (lv_at hl 3 rfl) ?_
          have hP : va_P G vwCl (((xoT xo h hp hh sl) ++ ((paT ca hp ap (g, nI np)) ++ ((hiT ca hh ka (nI n) rf) ++ (stT ca kj bj T)))) ++ ((stT ca h a S) ++ (O ++ Z))) H := hP
          have hD : va_D A (((xoT xo h hp hh sl) ++ ((paT ca hp ap (g, nI np)) ++ ((hiT ca hh ka (nI n) rf) ++ (stT ca kj bj T)))) ++ ((stT ca h a S) ++ (O ++ Z))) := hD
          refine goI (va_runV (As := [.int (nI w), .int (nI f), .int (nI t)]) (rest := []) ⟨hx, hb, hml, hown, hts⟩ (CtI.use (c_X3_costBySteps l G ca h a S w f t (by omega) (by omega) (by omega)) H.size) (cwV 3 hts gX4_cost_X3_costBySteps rfl rfl rfl (by decide +kernel) ⟨Nat.le_of_ble_eq_true rfl, Nat.le_of_ble_eq_true rfl⟩) (pcW_V hev (P_left (P_right hP)) (D_left (D_right hD)) (q0 := 0) rfl rfl rfl) rfl rfl hl.1 rfl (lv_room (Nat.le_of_ble_eq_true rfl)) dX4_cost_35 ⟨Nat.zero_le _, Nat.zero_le _⟩) hP hD hS hA stF (fun H locs hP hD hS => ?_)
          have hP : va_P G vwCl ((xoT xo h hp hh sl) ++ ((paT ca hp ap (g, nI np)) ++ ((hiT ca hh ka (nI n) rf) ++ ((stT ca kj bj T) ++ ((stT ca h a S) ++ (O ++ Z)))))) H := hP
          have hD : va_D A ((xoT xo h hp hh sl) ++ ((paT ca hp ap (g, nI np)) ++ ((hiT ca hh ka (nI n) rf) ++ ((stT ca kj bj T) ++ ((stT ca h a S) ++ (O ++ Z)))))) := hD
          exact hret _ _ _ _ hP hS dX4_cost_38
      · skip
        exact absurd c_3 (by decide)
set_option maxHeartbeats 4000000 in
set_option maxRecDepth 100000 in
theorem c_X4_cost_1 (l : Launch) (G : va_G) (ca : Nat → ClassId) (xo sl : Nat) (hp ap : Nat) (g : Nat → Int32) (np : Nat) (hh ka : Nat) (n : Nat) (rf : Nat → Option Nat) (kj : Nat) (bj : Nat → Nat) (T : SS) (h : Nat) (a : Nat → Nat) (S : SS) (O : va_W) (Z : va_W) (w : Nat) (f : Nat) (t : Nat) (hw : w < 6) (hf : f < 12) (ht : t < 12) : CtI l yX4_cost wsX4_cost ({ frames := 6, cells := 0, slots := 0, locals := 140 }) [.ref xo, .int (nI w), .int (nI f), .int (nI t), .int 1] G ca ((xoT xo h hp hh sl) ++ ((paT ca hp ap (g, nI np)) ++ ((hiT ca hh ka (nI n) rf) ++ ((stT ca kj bj T) ++ ((stT ca h a S) ++ (O ++ Z)))))) ((xoT xo h hp hh sl) ++ ((paT ca hp ap (g, nI np)) ++ ((hiT ca hh ka (nI n) rf) ++ ((stT ca kj bj T) ++ ((stT ca h a S) ++ (O ++ Z)))))) (smD (fun k => dutyA S (plc k f t)) (stU S w f t)) := by
  refine CtI.ofW (cc := cX4_cost) (maxL := 5) (rt := .int) (by decide) rfl (Nat.le_of_ble_eq_true rfl) rfl ?_
  intro pr en s m be me c A ls Q H hx hb hml hts hown hev hP hD hA hS hl hret
  have hown : s.vm.findClass RX4 = some m.cls := hown
  have hl : lv_has ls 5 [(0, .ref xo), (1, .int (nI w)), (2, .int (nI f)), (3, .int (nI t)), (4, .int 1)] := hl
  have in_wsX40 : ∀ w ∈ wsX40, w ∈ wsX4_cost := fun _ h => List.mem_cons_of_mem _ (List.mem_append_left _ (List.mem_append_right _ h))
  have in_wsX30 : ∀ w ∈ wsX30, w ∈ wsX4_cost := fun _ h => List.mem_cons_of_mem _ (List.mem_append_right _ h)
  refine lv_iload_n hx hb dX4_cost_0 rfl (lv_at hl 1 rfl) ?_
  refine goI0 (va_runS (As := [.int (nI w)]) (rest := []) ⟨hx, hb, hml, hown, hts⟩ (CtI.use (c_X4_isWalker_in l G ca w (by omega)) H.size) (va_cwS 1 hts gX4_cost_X4_isWalker rfl rfl rfl (by decide +kernel) ⟨Nat.le_of_ble_eq_true rfl, Nat.le_of_ble_eq_true rfl⟩) (pcW_S hev P_nil (D_nil (A := A))) rfl rfl hl.1 rfl (lv_room (Nat.le_of_ble_eq_true rfl)) dX4_cost_1 ⟨Nat.zero_le _, Nat.zero_le _⟩) hP hS hA (fun H locs hP hS => ?_)
  refine lv_if_eq (tgt := 21) hx hb dX4_cost_4 (by decide) (fun c_1 => ?_) (fun c_1 => ?_)
  · skip
    exact absurd c_1 (by decide)
  · skip
    refine lv_iload_n hx hb dX4_cost_7 rfl (lv_at hl 2 rfl) ?_
    refine goI0 (va_runS (As := [.int (nI f)]) (rest := []) ⟨hx, hb, hml, hown, hts⟩ (CtI.use (c_X4_isPuddle_in l G ca f (by omega)) H.size) (va_cwS 1 hts gX4_cost_X4_isPuddle rfl rfl rfl (by decide +kernel) ⟨Nat.le_of_ble_eq_true rfl, Nat.le_of_ble_eq_true rfl⟩) (pcW_S hev P_nil (D_nil (A := A))) rfl rfl hl.1 rfl (lv_room (Nat.le_of_ble_eq_true rfl)) dX4_cost_8 ⟨Nat.zero_le _, Nat.zero_le _⟩) hP hS hA (fun H locs hP hS => ?_)
    refine lv_if_eq (tgt := 21) hx hb dX4_cost_11 (by decide) (fun c_2 => ?_) (fun c_2 => ?_)
    · skip
      exact absurd c_2 (by decide)
    · skip
      refine lv_iload_n hx hb dX4_cost_14 rfl (lv_at hl 3 rfl) ?_
      refine goI0 (va_runS (As := [.int (nI t)]) (rest := []) ⟨hx, hb, hml, hown, hts⟩ (CtI.use (c_X4_isPuddle_in l G ca t (by omega)) H.size) (va_cwS 1 hts gX4_cost_X4_isPuddle rfl rfl rfl (by decide +kernel) ⟨Nat.le_of_ble_eq_true rfl, Nat.le_of_ble_eq_true rfl⟩) (pcW_S hev P_nil (D_nil (A := A))) rfl rfl hl.1 rfl (lv_room (Nat.le_of_ble_eq_true rfl)) dX4_cost_15 ⟨Nat.zero_le _, Nat.zero_le _⟩) hP hS hA (fun H locs hP hS => ?_)
      refine lv_if_ne (tgt := 23) hx hb dX4_cost_18 (by decide) (fun c_3 => ?_) (fun c_3 => ?_)
      · skip
        refine lv_iload hx hb dX4_cost_23 (lv_at hl 4 rfl) ?_
        refine lv_if_ne (tgt := 39) hx hb dX4_cost_25 (by decide) (fun c_4 => ?_) (fun c_4 => ?_)
        · skip
          refine lv_iload hx hb dX4_cost_39 (lv_at hl 4 rfl) ?_
          refine lv_iconst (v := 1) hx hb dX4_cost_41 (by decide) ?_
          refine lv_icmp_ne (tgt := 56) hx hb dX4_cost_42 (by decide) (fun c_5 => ?_) (fun c_5 => ?_)
          · skip
            exact absurd (by decide) c_5
          · skip
            refine lv_aload_n hx hb dX4_cost_45 rfl (lv_at hl 0 rfl) ?_
            refine va_get (D := G) (ci := 4) (v := .ref h) (C := RX4) (T := TX4) (N := 4) hx hb hts in_wsX40 hown hev.1 hP 0 rfl rfl 0 (by decide) (hts (.fieldLink RX4 10 "PuddleMinistries" "street" "LPuddleMinistries$Street;") (List.mem_of_getElem? (i := 1) rfl)) (fun _ h9 => h9) rfl dX4_cost_46 ?_
            refine lv_iload_n hx hb dX4_cost_49 rfl (lv_at hl 1 rfl) ?_
            refine lv_iload_n hx hb dX4_cost_50 rfl (lv_at hl 2 rfl) ?_
            refine lv_iload_n hx hb dX4_cost_51 rfl (lv_at hl 3 rfl) ?_
            have hP : va_P G vwCl (((xoT xo h hp hh sl) ++ ((paT ca hp ap (g, nI np)) ++ ((hiT ca hh ka (nI n) rf) ++ (stT ca kj bj T)))) ++ ((stT ca h a S) ++ (O ++ Z))) H := hP
            have hD : va_D A (((xoT xo h hp hh sl) ++ ((paT ca hp ap (g, nI np)) ++ ((hiT ca hh ka (nI n) rf) ++ (stT ca kj bj T)))) ++ ((stT ca h a S) ++ (O ++ Z))) := hD
            refine goI (va_runV (As := [.int (nI w), .int (nI f), .int (nI t)]) (rest := []) ⟨hx, hb, hml, hown, hts⟩ (CtI.use (c_X3_costByBlock l G ca h a S w f t (by omega) (by omega) (by omega)) H.size) (cwV 3 hts gX4_cost_X3_costByBlock rfl rfl rfl (by decide +kernel) ⟨Nat.le_of_ble_eq_true rfl, Nat.le_of_ble_eq_true rfl⟩) (pcW_V hev (P_left (P_right hP)) (D_left (D_right hD)) (q0 := 0) rfl rfl rfl) rfl rfl hl.1 rfl (lv_room (Nat.le_of_ble_eq_true rfl)) dX4_cost_52 ⟨Nat.zero_le _, Nat.zero_le _⟩) hP hD hS hA stF (fun H locs hP hD hS => ?_)
            have hP : va_P G vwCl ((xoT xo h hp hh sl) ++ ((paT ca hp ap (g, nI np)) ++ ((hiT ca hh ka (nI n) rf) ++ ((stT ca kj bj T) ++ ((stT ca h a S) ++ (O ++ Z)))))) H := hP
            have hD : va_D A ((xoT xo h hp hh sl) ++ ((paT ca hp ap (g, nI np)) ++ ((hiT ca hh ka (nI n) rf) ++ ((stT ca kj bj T) ++ ((stT ca h a S) ++ (O ++ Z)))))) := hD
            exact hret _ _ _ _ hP hS dX4_cost_55
        · skip
          exact absurd c_4 (by decide)
      · skip
        exact absurd c_3 (by decide)
set_option maxHeartbeats 4000000 in
set_option maxRecDepth 100000 in
theorem c_X4_cost_bad (l : Launch) (G : va_G) (ca : Nat → ClassId) (xo sl : Nat) (hp ap : Nat) (g : Nat → Int32) (np : Nat) (hh ka : Nat) (n : Nat) (rf : Nat → Option Nat) (kj : Nat) (bj : Nat → Nat) (T : SS) (h : Nat) (a : Nat → Nat) (S : SS) (O : va_W) (Z : va_W) (w : Nat) (f : Nat) (t : Nat) (u : Int32) (hw : w < 6) (hf : f < 12) (ht : t < 12) (hu0 : ¬ u = 0) (hu1 : ¬ u = 1) : CtI l yX4_cost wsX4_cost ({ frames := 1, cells := 0, slots := 0, locals := 20 }) [.ref xo, .int (nI w), .int (nI f), .int (nI t), .int u] G ca ((xoT xo h hp hh sl) ++ ((paT ca hp ap (g, nI np)) ++ ((hiT ca hh ka (nI n) rf) ++ ((stT ca kj bj T) ++ ((stT ca h a S) ++ (O ++ Z)))))) ((xoT xo h hp hh sl) ++ ((paT ca hp ap (g, nI np)) ++ ((hiT ca hh ka (nI n) rf) ++ ((stT ca kj bj T) ++ ((stT ca h a S) ++ (O ++ Z)))))) (-2) := by
  refine CtI.ofW (cc := cX4_cost) (maxL := 5) (rt := .int) (by decide) rfl (Nat.le_of_ble_eq_true rfl) rfl ?_
  intro pr en s m be me c A ls Q H hx hb hml hts hown hev hP hD hA hS hl hret
  have hown : s.vm.findClass RX4 = some m.cls := hown
  have hl : lv_has ls 5 [(0, .ref xo), (1, .int (nI w)), (2, .int (nI f)), (3, .int (nI t)), (4, .int u)] := hl
  have in_wsX40 : ∀ w ∈ wsX40, w ∈ wsX4_cost := fun _ h => List.mem_cons_of_mem _ (List.mem_append_left _ (List.mem_append_right _ h))
  have in_wsX30 : ∀ w ∈ wsX30, w ∈ wsX4_cost := fun _ h => List.mem_cons_of_mem _ (List.mem_append_right _ h)
  refine lv_iload_n hx hb dX4_cost_0 rfl (lv_at hl 1 rfl) ?_
  refine goI0 (va_runS (As := [.int (nI w)]) (rest := []) ⟨hx, hb, hml, hown, hts⟩ (CtI.use (c_X4_isWalker_in l G ca w (by omega)) H.size) (va_cwS 1 hts gX4_cost_X4_isWalker rfl rfl rfl (by decide +kernel) ⟨Nat.le_of_ble_eq_true rfl, Nat.le_of_ble_eq_true rfl⟩) (pcW_S hev P_nil (D_nil (A := A))) rfl rfl hl.1 rfl (lv_room (Nat.le_of_ble_eq_true rfl)) dX4_cost_1 ⟨Nat.zero_le _, Nat.zero_le _⟩) hP hS hA (fun H locs hP hS => ?_)
  refine lv_if_eq (tgt := 21) hx hb dX4_cost_4 (by decide) (fun c_1 => ?_) (fun c_1 => ?_)
  · skip
    exact absurd c_1 (by decide)
  · skip
    refine lv_iload_n hx hb dX4_cost_7 rfl (lv_at hl 2 rfl) ?_
    refine goI0 (va_runS (As := [.int (nI f)]) (rest := []) ⟨hx, hb, hml, hown, hts⟩ (CtI.use (c_X4_isPuddle_in l G ca f (by omega)) H.size) (va_cwS 1 hts gX4_cost_X4_isPuddle rfl rfl rfl (by decide +kernel) ⟨Nat.le_of_ble_eq_true rfl, Nat.le_of_ble_eq_true rfl⟩) (pcW_S hev P_nil (D_nil (A := A))) rfl rfl hl.1 rfl (lv_room (Nat.le_of_ble_eq_true rfl)) dX4_cost_8 ⟨Nat.zero_le _, Nat.zero_le _⟩) hP hS hA (fun H locs hP hS => ?_)
    refine lv_if_eq (tgt := 21) hx hb dX4_cost_11 (by decide) (fun c_2 => ?_) (fun c_2 => ?_)
    · skip
      exact absurd c_2 (by decide)
    · skip
      refine lv_iload_n hx hb dX4_cost_14 rfl (lv_at hl 3 rfl) ?_
      refine goI0 (va_runS (As := [.int (nI t)]) (rest := []) ⟨hx, hb, hml, hown, hts⟩ (CtI.use (c_X4_isPuddle_in l G ca t (by omega)) H.size) (va_cwS 1 hts gX4_cost_X4_isPuddle rfl rfl rfl (by decide +kernel) ⟨Nat.le_of_ble_eq_true rfl, Nat.le_of_ble_eq_true rfl⟩) (pcW_S hev P_nil (D_nil (A := A))) rfl rfl hl.1 rfl (lv_room (Nat.le_of_ble_eq_true rfl)) dX4_cost_15 ⟨Nat.zero_le _, Nat.zero_le _⟩) hP hS hA (fun H locs hP hS => ?_)
      refine lv_if_ne (tgt := 23) hx hb dX4_cost_18 (by decide) (fun c_3 => ?_) (fun c_3 => ?_)
      · skip
        refine lv_iload hx hb dX4_cost_23 (lv_at hl 4 rfl) ?_
        refine lv_if_ne (tgt := 39) hx hb dX4_cost_25 (by decide) (fun c_4 => ?_) (fun c_4 => ?_)
        · skip
          refine lv_iload hx hb dX4_cost_39 (lv_at hl 4 rfl) ?_
          refine lv_iconst (v := 1) hx hb dX4_cost_41 (by decide) ?_
          refine lv_icmp_ne (tgt := 56) hx hb dX4_cost_42 (by decide) (fun c_5 => ?_) (fun c_5 => ?_)
          · skip
            refine lv_bipush (v := (-2)) hx hb dX4_cost_56 (by decide) ?_
            exact hret _ _ _ _ hP hS dX4_cost_58
          · skip
            exact absurd c_5 hu1
        · skip
          exact absurd c_4 hu0
      · skip
        exact absurd c_3 (by decide)
