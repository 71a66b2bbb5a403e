/-! the reference: reads, permits, reasons, weather -/
def inC (v lo hi : Int32) : Int32 := if v < lo then 0 else if hi < v then 0 else 1
theorem inC_nar (v lo hi : Int32) : narrow .boolean (.int (inC v lo hi)) = .int (inC v lo hi) := by unfold inC; split; rfl; split <;> rfl
def zFz (z : Nat → Int32) (p : Nat) : Int32 := if z (8 + 5 * p + 2) = 1 then 1 else 0
def zDk (z : Nat → Int32) (p : Nat) : Int32 := if z (8 + 5 * p + 3) = 1 then 1 else 0
def orD (g : Nat → Int32) : Nat → Int32 | 0 => 0 | i + 1 => orD g i ||| g i
theorem orD_s (g : Nat → Int32) (i : Nat) : orD g (i + 1) = orD g i ||| g i := rfl
def zPg (z : Nat → Int32) (w p : Nat) : Int32 := if z (92 + 12 * w + p) ≤ 0 then 0 else (1 : Int32) <<< (nI p &&& 31)
def zHg (z : Nat → Int32) (p w : Nat) : Int32 := if z (92 + 12 * w + p) ≤ 0 then 0 else (1 : Int32) <<< (nI w &&& 31)
def szN (x : Int32) : Int32 := smD (fun k => (x >>> (nI k &&& 31)) &&& 1) 12
def zRs (z : Nat → Int32) (w p : Nat) (x : Int32) : Int32 := if zDk z p = 0 then (if z (92 + 12 * w + p) ≤ 0 then (if zFz z p = 0 then (if z (8 + 5 * p + 1) / 5 ≤ 2 * x + 1 then 0 else 2) else (if z (8 + 5 * p + 1) / 5 ≤ 0 then 0 else 3)) else 0) else 1
def zRn (z : Nat → Int32) (w p : Nat) : Int32 := zRs z w p (z (68 + 4 * w + 0))
def zDu (z : Nat → Int32) (p : Nat) : Int32 := if zFz z p = 0 then z 0 * (z (8 + 5 * p + 1) / 5) else 0
def zMg (z : Nat → Int32) (w : Nat) (x : Int32) (p : Nat) : Int32 := if zRs z w p x = 0 then (1 : Int32) <<< (nI p &&& 31) else 0
def zWg (z : Nat → Int32) (k p : Nat) : Int32 := z (8 + 5 * p + k) <<< (nI p &&& 31)
set_option maxHeartbeats 4000000 in
set_option maxRecDepth 100000 in
theorem c_X5_in (l : Launch) (G : va_G) (ca : Nat → ClassId) (v : Int32) (lo : Int32) (hi : Int32) : CtI l yX5_in wsX5_in ({ frames := 0, cells := 0, slots := 0, locals := 0 }) [.int v, .int lo, .int hi] G ca ([]) ([]) (inC v lo hi) := by
  refine CtI.ofW (cc := cX5_in) (maxL := 3) (rt := .boolean) (by decide) rfl (Nat.le_of_ble_eq_true rfl) (inC_nar _ _ _) ?_
  intro pr en s m be me c A ls Q H hx hb hml hts hown hev hP hD hA hS hl hret
  have hown : s.vm.findClass RX5 = some m.cls := hown
  have hl : lv_has ls 3 [(0, .int v), (1, .int lo), (2, .int hi)] := hl
  refine lv_iload_n hx hb dX5_in_0 rfl (lv_at hl 0 rfl) ?_
  refine lv_iload_n hx hb dX5_in_1 rfl (lv_at hl 1 rfl) ?_
  refine lv_icmp_lt (tgt := 14) hx hb dX5_in_2 (by decide) (fun c_1 => ?_) (fun c_1 => ?_)
  · skip
    refine lv_iconst (v := 0) hx hb dX5_in_14 (by decide) ?_
    refine lv_eqi (y := inC v lo hi) (by rw [inC, if_pos c_1]) ?_
    exact hret _ _ _ _ hP hS dX5_in_15
  · skip
    refine lv_iload_n hx hb dX5_in_5 rfl (lv_at hl 0 rfl) ?_
    refine lv_iload_n hx hb dX5_in_6 rfl (lv_at hl 2 rfl) ?_
    refine lv_icmp_gt (tgt := 14) hx hb dX5_in_7 (by decide) (fun c_2 => ?_) (fun c_2 => ?_)
    · skip
      refine lv_iconst (v := 0) hx hb dX5_in_14 (by decide) ?_
      refine lv_eqi (y := inC v lo hi) (by rw [inC, if_neg c_1, if_pos c_2]) ?_
      exact hret _ _ _ _ hP hS dX5_in_15
    · skip
      refine lv_iconst (v := 1) hx hb dX5_in_10 (by decide) ?_
      refine lv_goto (tgt := 15) hx hb dX5_in_11 (by decide) ?_
      refine lv_eqi (y := inC v lo hi) (by rw [inC, if_neg c_1, if_neg c_2]) ?_
      exact hret _ _ _ _ hP hS dX5_in_15
set_option maxHeartbeats 4000000 in
set_option maxRecDepth 100000 in
theorem c_X5_isPuddle (l : Launch) (G : va_G) (ca : Nat → ClassId) (v : Int32) : CtI l yX5_isPuddle wsX5_isPuddle ({ frames := 1, cells := 0, slots := 0, locals := 22 }) [.int v] G ca ([]) ([]) (inC v 0 11) := by
  refine CtI.ofW (cc := cX5_isPuddle) (maxL := 1) (rt := .boolean) (by decide) rfl (Nat.le_of_ble_eq_true rfl) (inC_nar _ _ _) ?_
  intro pr en s m be me c A ls Q H hx hb hml hts hown hev hP hD hA hS hl hret
  have hown : s.vm.findClass RX5 = some m.cls := hown
  have hl : lv_has ls 1 [(0, .int v)] := hl
  refine lv_iload_n hx hb dX5_isPuddle_0 rfl (lv_at hl 0 rfl) ?_
  refine lv_iconst (v := 0) hx hb dX5_isPuddle_1 (by decide) ?_
  refine lv_bipush (v := 11) hx hb dX5_isPuddle_2 (by decide) ?_
  refine goI0 (va_runS (As := [.int v, .int 0, .int 11]) (rest := []) ⟨hx, hb, hml, hown, hts⟩ (CtI.use (c_X5_in l G ca v 0 11) H.size) (va_cwS 3 hts gX5_isPuddle_X5_in rfl rfl rfl (by decide +kernel) ⟨Nat.le_of_ble_eq_true rfl, Nat.le_of_ble_eq_true rfl⟩) (pcW_S hev P_nil (D_nil (A := A))) rfl rfl hl.1 rfl (lv_room (Nat.le_of_ble_eq_true rfl)) dX5_isPuddle_4 ⟨Nat.zero_le _, Nat.zero_le _⟩) hP hS hA (fun H locs hP hS => ?_)
  exact hret _ _ _ _ hP hS dX5_isPuddle_7
set_option maxHeartbeats 4000000 in
set_option maxRecDepth 100000 in
theorem c_X5_isWalker (l : Launch) (G : va_G) (ca : Nat → ClassId) (v : Int32) : CtI l yX5_isWalker wsX5_isWalker ({ frames := 1, cells := 0, slots := 0, locals := 22 }) [.int v] G ca ([]) ([]) (inC v 0 5) := by
  refine CtI.ofW (cc := cX5_isWalker) (maxL := 1) (rt := .boolean) (by decide) rfl (Nat.le_of_ble_eq_true rfl) (inC_nar _ _ _) ?_
  intro pr en s m be me c A ls Q H hx hb hml hts hown hev hP hD hA hS hl hret
  have hown : s.vm.findClass RX5 = some m.cls := hown
  have hl : lv_has ls 1 [(0, .int v)] := hl
  refine lv_iload_n hx hb dX5_isWalker_0 rfl (lv_at hl 0 rfl) ?_
  refine lv_iconst (v := 0) hx hb dX5_isWalker_1 (by decide) ?_
  refine lv_iconst (v := 5) hx hb dX5_isWalker_2 (by decide) ?_
  refine goI0 (va_runS (As := [.int v, .int 0, .int 5]) (rest := []) ⟨hx, hb, hml, hown, hts⟩ (CtI.use (c_X5_in l G ca v 0 5) H.size) (va_cwS 3 hts gX5_isWalker_X5_in rfl rfl rfl (by decide +kernel) ⟨Nat.le_of_ble_eq_true rfl, Nat.le_of_ble_eq_true rfl⟩) (pcW_S hev P_nil (D_nil (A := A))) rfl rfl hl.1 rfl (lv_room (Nat.le_of_ble_eq_true rfl)) dX5_isWalker_3 ⟨Nat.zero_le _, Nat.zero_le _⟩) hP hS hA (fun H locs hP hS => ?_)
  exact hret _ _ _ _ hP hS dX5_isWalker_6
set_option maxHeartbeats 4000000 in
set_option maxRecDepth 100000 in
theorem c_X5_of (l : Launch) (G : va_G) (ca : Nat → ClassId) (h : Nat) (a : Nat → Nat) (M : MM) (p : Nat) (k : Nat) (hp : p < 12) (hk : k < 5) : CtI l yX5_of wsX5_of ({ frames := 0, cells := 0, slots := 0, locals := 0 }) [.ref h, .int (nI p), .int (nI k)] G ca (moT ca h a M) (moT ca h a M) (m_z M (8 + 5 * p + k)) := by
  refine CtI.ofW (cc := cX5_of) (maxL := 3) (rt := .int) (by decide) rfl (Nat.le_of_ble_eq_true rfl) rfl ?_
  intro pr en s m be me c A ls Q H hx hb hml hts hown hev hP hD hA hS hl hret
  have hown : s.vm.findClass RX5 = some m.cls := hown
  have hl : lv_has ls 3 [(0, .ref h), (1, .int (nI p)), (2, .int (nI k))] := hl
  have in_wsX50 : ∀ w ∈ wsX50, w ∈ wsX5_of := fun _ h => List.mem_cons_of_mem _ (List.mem_append_right _ h)
  refine lv_aload_n hx hb dX5_of_0 rfl (lv_at hl 0 rfl) ?_
  refine va_get (D := G) (ci := 5) (v := .ref (a 0)) (C := RX5) (T := TX5) (N := 10) hx hb hts in_wsX50 hown hev.1 hP 0 rfl rfl 0 (by decide) (hts (.fieldLink RX5 7 "PuddleMinistriesModel" "z" "[I") (List.mem_of_getElem? (i := 1) rfl)) (fun _ h9 => h9) rfl dX5_of_1 ?_
  refine lv_bipush (v := nI 8) hx hb dX5_of_4 (by decide) ?_
  refine lv_iconst (v := nI 5) hx hb dX5_of_6 (by decide) ?_
  refine lv_iload_n hx hb dX5_of_7 rfl (lv_at hl 1 rfl) ?_
  refine lv_imul hx hb dX5_of_8 ?_
  refine lv_eqi (pk_mul _ _) ?_
  refine lv_iadd hx hb dX5_of_9 ?_
  refine lv_eqi (nI_add _ _) ?_
  refine lv_iload_n hx hb dX5_of_10 rfl (lv_at hl 2 rfl) ?_
  refine lv_iadd hx hb dX5_of_11 ?_
  refine lv_eqi (nI_add _ _) ?_
  refine b_iald hx hb hev.1 hP 1 rfl rfl (j := ((8 + (5 * p)) + k)) (by omega) (by decide) dX5_of_12 ?_
  refine lv_eqi (y := m_z M (8 + 5 * p + k)) rfl ?_
  exact hret _ _ _ _ hP hS dX5_of_13
set_option maxHeartbeats 4000000 in
set_option maxRecDepth 100000 in
theorem c_X5_lay (l : Launch) (G : va_G) (ca : Nat → ClassId) (h : Nat) (a : Nat → Nat) (M : MM) (p : Nat) (k : Nat) (x : Int32) (hp : p < 12) (hk : k < 5) : CtV l yX5_lay wsX5_lay ({ frames := 0, cells := 0, slots := 0, locals := 0 }) [.ref h, .int (nI p), .int (nI k), .int x] G ca (moT ca h a M) (moT ca h a (upd (m_z M) (8 + 5 * p + k) x, m_past M, m_states M, m_slots M, m_isSaved M, m_pad M, m_typed M, m_spot M, m_told M, m_toldMany M)) := by
  refine CtV.ofW (cc := cX5_lay) (maxL := 4) (by decide) rfl (Nat.le_of_ble_eq_true rfl) ?_
  intro pr en s m be me c A ls Q H hx hb hml hts hown hev hP hD hA hS hl hret
  have hown : s.vm.findClass RX5 = some m.cls := hown
  have hl : lv_has ls 4 [(0, .ref h), (1, .int (nI p)), (2, .int (nI k)), (3, .int x)] := hl
  have in_wsX50 : ∀ w ∈ wsX50, w ∈ wsX5_lay := fun _ h => List.mem_cons_of_mem _ (List.mem_append_right _ h)
  refine lv_aload_n hx hb dX5_lay_0 rfl (lv_at hl 0 rfl) ?_
  refine va_get (D := G) (ci := 5) (v := .ref (a 0)) (C := RX5) (T := TX5) (N := 10) hx hb hts in_wsX50 hown hev.1 hP 0 rfl rfl 0 (by decide) (hts (.fieldLink RX5 7 "PuddleMinistriesModel" "z" "[I") (List.mem_of_getElem? (i := 1) rfl)) (fun _ h9 => h9) rfl dX5_lay_1 ?_
  refine lv_bipush (v := nI 8) hx hb dX5_lay_4 (by decide) ?_
  refine lv_iconst (v := nI 5) hx hb dX5_lay_6 (by decide) ?_
  refine lv_iload_n hx hb dX5_lay_7 rfl (lv_at hl 1 rfl) ?_
  refine lv_imul hx hb dX5_lay_8 ?_
  refine lv_eqi (pk_mul _ _) ?_
  refine lv_iadd hx hb dX5_lay_9 ?_
  refine lv_eqi (nI_add _ _) ?_
  refine lv_iload_n hx hb dX5_lay_10 rfl (lv_at hl 2 rfl) ?_
  refine lv_iadd hx hb dX5_lay_11 ?_
  refine lv_eqi (nI_add _ _) ?_
  refine lv_iload_n hx hb dX5_lay_12 rfl (lv_at hl 3 rfl) ?_
  refine b_iast hx hb hev.1 hP hD hS 1 rfl rfl (j := ((8 + (5 * p)) + k)) (by omega) (by decide) dX5_lay_13 (fun H locs hP hD hS => ?_)
  have hP : va_P G vwCl (moT ca h a (upd (m_z M) ((8 + (5 * p)) + k) x, m_past M, m_states M, m_slots M, m_isSaved M, m_pad M, m_typed M, m_spot M, m_told M, m_toldMany M)) H := hP
  have hD : va_D A (moT ca h a (upd (m_z M) ((8 + (5 * p)) + k) x, m_past M, m_states M, m_slots M, m_isSaved M, m_pad M, m_typed M, m_spot M, m_told M, m_toldMany M)) := hD
  exact hret _ _ _ _ hP hS dX5_lay_14
set_option maxHeartbeats 4000000 in
set_option maxRecDepth 100000 in
theorem c_X5_ofWalker (l : Launch) (G : va_G) (ca : Nat → ClassId) (h : Nat) (a : Nat → Nat) (M : MM) (w : Nat) (k : Nat) (hw : w < 6) (hk : k < 4) : CtI l yX5_ofWalker wsX5_ofWalker ({ frames := 0, cells := 0, slots := 0, locals := 0 }) [.ref h, .int (nI w), .int (nI k)] G ca (moT ca h a M) (moT ca h a M) (m_z M (68 + 4 * w + k)) := by
  refine CtI.ofW (cc := cX5_ofWalker) (maxL := 3) (rt := .int) (by decide) rfl (Nat.le_of_ble_eq_true rfl) rfl ?_
  intro pr en s m be me c A ls Q H hx hb hml hts hown hev hP hD hA hS hl hret
  have hown : s.vm.findClass RX5 = some m.cls := hown
  have hl : lv_has ls 3 [(0, .ref h), (1, .int (nI w)), (2, .int (nI k))] := hl
  have in_wsX50 : ∀ w ∈ wsX50, w ∈ wsX5_ofWalker := fun _ h => List.mem_cons_of_mem _ (List.mem_append_right _ h)
  refine lv_aload_n hx hb dX5_ofWalker_0 rfl (lv_at hl 0 rfl) ?_
  refine va_get (D := G) (ci := 5) (v := .ref (a 0)) (C := RX5) (T := TX5) (N := 10) hx hb hts in_wsX50 hown hev.1 hP 0 rfl rfl 0 (by decide) (hts (.fieldLink RX5 7 "PuddleMinistriesModel" "z" "[I") (List.mem_of_getElem? (i := 1) rfl)) (fun _ h9 => h9) rfl dX5_ofWalker_1 ?_
  refine lv_bipush (v := nI 68) hx hb dX5_ofWalker_4 (by decide) ?_
  refine lv_iconst (v := nI 4) hx hb dX5_ofWalker_6 (by decide) ?_
  refine lv_iload_n hx hb dX5_ofWalker_7 rfl (lv_at hl 1 rfl) ?_
  refine lv_imul hx hb dX5_ofWalker_8 ?_
  refine lv_eqi (pk_mul _ _) ?_
  refine lv_iadd hx hb dX5_ofWalker_9 ?_
  refine lv_eqi (nI_add _ _) ?_
  refine lv_iload_n hx hb dX5_ofWalker_10 rfl (lv_at hl 2 rfl) ?_
  refine lv_iadd hx hb dX5_ofWalker_11 ?_
  refine lv_eqi (nI_add _ _) ?_
  refine b_iald hx hb hev.1 hP 1 rfl rfl (j := ((68 + (4 * w)) + k)) (by omega) (by decide) dX5_ofWalker_12 ?_
  refine lv_eqi (y := m_z M (68 + 4 * w + k)) rfl ?_
  exact hret _ _ _ _ hP hS dX5_ofWalker_13
set_option maxHeartbeats 4000000 in
set_option maxRecDepth 100000 in
theorem c_X5_layWalker (l : Launch) (G : va_G) (ca : Nat → ClassId) (h : Nat) (a : Nat → Nat) (M : MM) (w : Nat) (k : Nat) (x : Int32) (hw : w < 6) (hk : k < 4) : CtV l yX5_layWalker wsX5_layWalker ({ frames := 0, cells := 0, slots := 0, locals := 0 }) [.ref h, .int (nI w), .int (nI k), .int x] G ca (moT ca h a M) (moT ca h a (upd (m_z M) (68 + 4 * w + k) x, m_past M, m_states M, m_slots M, m_isSaved M, m_pad M, m_typed M, m_spot M, m_told M, m_toldMany M)) := by
  refine CtV.ofW (cc := cX5_layWalker) (maxL := 4) (by decide) rfl (Nat.le_of_ble_eq_true rfl) ?_
  intro pr en s m be me c A ls Q H hx hb hml hts hown hev hP hD hA hS hl hret
  have hown : s.vm.findClass RX5 = some m.cls := hown
  have hl : lv_has ls 4 [(0, .ref h), (1, .int (nI w)), (2, .int (nI k)), (3, .int x)] := hl
  have in_wsX50 : ∀ w ∈ wsX50, w ∈ wsX5_layWalker := fun _ h => List.mem_cons_of_mem _ (List.mem_append_right _ h)
  refine lv_aload_n hx hb dX5_layWalker_0 rfl (lv_at hl 0 rfl) ?_
  refine va_get (D := G) (ci := 5) (v := .ref (a 0)) (C := RX5) (T := TX5) (N := 10) hx hb hts in_wsX50 hown hev.1 hP 0 rfl rfl 0 (by decide) (hts (.fieldLink RX5 7 "PuddleMinistriesModel" "z" "[I") (List.mem_of_getElem? (i := 1) rfl)) (fun _ h9 => h9) rfl dX5_layWalker_1 ?_
  refine lv_bipush (v := nI 68) hx hb dX5_layWalker_4 (by decide) ?_
  refine lv_iconst (v := nI 4) hx hb dX5_layWalker_6 (by decide) ?_
  refine lv_iload_n hx hb dX5_layWalker_7 rfl (lv_at hl 1 rfl) ?_
  refine lv_imul hx hb dX5_layWalker_8 ?_
  refine lv_eqi (pk_mul _ _) ?_
  refine lv_iadd hx hb dX5_layWalker_9 ?_
  refine lv_eqi (nI_add _ _) ?_
  refine lv_iload_n hx hb dX5_layWalker_10 rfl (lv_at hl 2 rfl) ?_
  refine lv_iadd hx hb dX5_layWalker_11 ?_
  refine lv_eqi (nI_add _ _) ?_
  refine lv_iload_n hx hb dX5_layWalker_12 rfl (lv_at hl 3 rfl) ?_
  refine b_iast hx hb hev.1 hP hD hS 1 rfl rfl (j := ((68 + (4 * w)) + k)) (by omega) (by decide) dX5_layWalker_13 (fun H locs hP hD hS => ?_)
  have hP : va_P G vwCl (moT ca h a (upd (m_z M) ((68 + (4 * w)) + k) x, m_past M, m_states M, m_slots M, m_isSaved M, m_pad M, m_typed M, m_spot M, m_told M, m_toldMany M)) H := hP
  have hD : va_D A (moT ca h a (upd (m_z M) ((68 + (4 * w)) + k) x, m_past M, m_states M, m_slots M, m_isSaved M, m_pad M, m_typed M, m_spot M, m_told M, m_toldMany M)) := hD
  exact hret _ _ _ _ hP hS dX5_layWalker_14
set_option maxHeartbeats 4000000 in
set_option maxRecDepth 100000 in
theorem c_X5_days (l : Launch) (G : va_G) (ca : Nat → ClassId) (h : Nat) (a : Nat → Nat) (M : MM) (w : Nat) (p : Nat) (hw : w < 6) (hp : p < 12) : CtI l yX5_days wsX5_days ({ frames := 0, cells := 0, slots := 0, locals := 0 }) [.ref h, .int (nI w), .int (nI p)] G ca (moT ca h a M) (moT ca h a M) (m_z M (92 + 12 * w + p)) := by
  refine CtI.ofW (cc := cX5_days) (maxL := 3) (rt := .int) (by decide) rfl (Nat.le_of_ble_eq_true rfl) rfl ?_
  intro pr en s m be me c A ls Q H hx hb hml hts hown hev hP hD hA hS hl hret
  have hown : s.vm.findClass RX5 = some m.cls := hown
  have hl : lv_has ls 3 [(0, .ref h), (1, .int (nI w)), (2, .int (nI p))] := hl
  have in_wsX50 : ∀ w ∈ wsX50, w ∈ wsX5_days := fun _ h => List.mem_cons_of_mem _ (List.mem_append_right _ h)
  refine lv_aload_n hx hb dX5_days_0 rfl (lv_at hl 0 rfl) ?_
  refine va_get (D := G) (ci := 5) (v := .ref (a 0)) (C := RX5) (T := TX5) (N := 10) hx hb hts in_wsX50 hown hev.1 hP 0 rfl rfl 0 (by decide) (hts (.fieldLink RX5 7 "PuddleMinistriesModel" "z" "[I") (List.mem_of_getElem? (i := 1) rfl)) (fun _ h9 => h9) rfl dX5_days_1 ?_
  refine lv_bipush (v := nI 92) hx hb dX5_days_4 (by decide) ?_
  refine lv_bipush (v := nI 12) hx hb dX5_days_6 (by decide) ?_
  refine lv_iload_n hx hb dX5_days_8 rfl (lv_at hl 1 rfl) ?_
  refine lv_imul hx hb dX5_days_9 ?_
  refine lv_eqi (pk_mul _ _) ?_
  refine lv_iadd hx hb dX5_days_10 ?_
  refine lv_eqi (nI_add _ _) ?_
  refine lv_iload_n hx hb dX5_days_11 rfl (lv_at hl 2 rfl) ?_
  refine lv_iadd hx hb dX5_days_12 ?_
  refine lv_eqi (nI_add _ _) ?_
  refine b_iald hx hb hev.1 hP 1 rfl rfl (j := ((92 + (12 * w)) + p)) (by omega) (by decide) dX5_days_13 ?_
  refine lv_eqi (y := m_z M (92 + 12 * w + p)) rfl ?_
  exact hret _ _ _ _ hP hS dX5_days_14
set_option maxHeartbeats 4000000 in
set_option maxRecDepth 100000 in
theorem c_X5_isFrozen (l : Launch) (G : va_G) (ca : Nat → ClassId) (h : Nat) (a : Nat → Nat) (M : MM) (p : Nat) (hp : p < 12) : CtI l yX5_isFrozen wsX5_isFrozen ({ frames := 1, cells := 0, slots := 0, locals := 22 }) [.ref h, .int (nI p)] G ca (moT ca h a M) (moT ca h a M) (zFz (m_z M) p) := by
  refine CtI.ofW (cc := cX5_isFrozen) (maxL := 2) (rt := .boolean) (by decide) rfl (Nat.le_of_ble_eq_true rfl) bool_nar ?_
  intro pr en s m be me c A ls Q H hx hb hml hts hown hev hP hD hA hS hl hret
  have hown : s.vm.findClass RX5 = some m.cls := hown
  have hl : lv_has ls 2 [(0, .ref h), (1, .int (nI p))] := hl
  have in_wsX50 : ∀ w ∈ wsX50, w ∈ wsX5_isFrozen := fun _ h => List.mem_cons_of_mem _ (List.mem_append_right _ h)
  refine lv_aload_n hx hb dX5_isFrozen_0 rfl (lv_at hl 0 rfl) ?_
  refine lv_iload_n hx hb dX5_isFrozen_1 rfl (lv_at hl 1 rfl) ?_
  refine lv_iconst (v := nI 2) hx hb dX5_isFrozen_2 (by decide) ?_
  refine goIw (va_runV (As := [.int (nI p), .int (nI 2)]) (rest := []) ⟨hx, hb, hml, hown, hts⟩ (CtI.use (c_X5_of l G ca h a M p 2 (by omega) (by omega)) H.size) (cwV 2 hts gX5_isFrozen_X5_of rfl rfl rfl (by decide +kernel) ⟨Nat.le_of_ble_eq_true rfl, Nat.le_of_ble_eq_true rfl⟩) (pcW_V hev hP hD (q0 := 0) rfl rfl rfl) rfl rfl hl.1 rfl (lv_room (Nat.le_of_ble_eq_true rfl)) dX5_isFrozen_3 ⟨Nat.zero_le _, Nat.zero_le _⟩) hD hS hA moF (fun H locs hP hD hS => ?_)
  refine lv_eqi (y := (m_z M) (8 + 5 * p + 2)) rfl ?_
  refine lv_iconst (v := 1) hx hb dX5_isFrozen_6 (by decide) ?_
  refine lv_icmp_ne (tgt := 14) hx hb dX5_isFrozen_7 (by decide) (fun c_1 => ?_) (fun c_1 => ?_)
  · skip
    refine lv_iconst (v := 0) hx hb dX5_isFrozen_14 (by decide) ?_
    refine lv_eqi (y := zFz (m_z M) p) (by rw [zFz, if_neg c_1]) ?_
    exact hret _ _ _ _ hP hS dX5_isFrozen_15
  · skip
    refine lv_iconst (v := 1) hx hb dX5_isFrozen_10 (by decide) ?_
    refine lv_goto (tgt := 15) hx hb dX5_isFrozen_11 (by decide) ?_
    refine lv_eqi (y := zFz (m_z M) p) (by rw [zFz, if_pos c_1]) ?_
    exact hret _ _ _ _ hP hS dX5_isFrozen_15
set_option maxHeartbeats 4000000 in
set_option maxRecDepth 100000 in
theorem c_X5_hasDucks (l : Launch) (G : va_G) (ca : Nat → ClassId) (h : Nat) (a : Nat → Nat) (M : MM) (p : Nat) (hp : p < 12) : CtI l yX5_hasDucks wsX5_hasDucks ({ frames := 1, cells := 0, slots := 0, locals := 22 }) [.ref h, .int (nI p)] G ca (moT ca h a M) (moT ca h a M) (zDk (m_z M) p) := by
  refine CtI.ofW (cc := cX5_hasDucks) (maxL := 2) (rt := .boolean) (by decide) rfl (Nat.le_of_ble_eq_true rfl) bool_nar ?_
  intro pr en s m be me c A ls Q H hx hb hml hts hown hev hP hD hA hS hl hret
  have hown : s.vm.findClass RX5 = some m.cls := hown
  have hl : lv_has ls 2 [(0, .ref h), (1, .int (nI p))] := hl
  have in_wsX50 : ∀ w ∈ wsX50, w ∈ wsX5_hasDucks := fun _ h => List.mem_cons_of_mem _ (List.mem_append_right _ h)
  refine lv_aload_n hx hb dX5_hasDucks_0 rfl (lv_at hl 0 rfl) ?_
  refine lv_iload_n hx hb dX5_hasDucks_1 rfl (lv_at hl 1 rfl) ?_
  refine lv_iconst (v := nI 3) hx hb dX5_hasDucks_2 (by decide) ?_
  refine goIw (va_runV (As := [.int (nI p), .int (nI 3)]) (rest := []) ⟨hx, hb, hml, hown, hts⟩ (CtI.use (c_X5_of l G ca h a M p 3 (by omega) (by omega)) H.size) (cwV 2 hts gX5_hasDucks_X5_of rfl rfl rfl (by decide +kernel) ⟨Nat.le_of_ble_eq_true rfl, Nat.le_of_ble_eq_true rfl⟩) (pcW_V hev hP hD (q0 := 0) rfl rfl rfl) rfl rfl hl.1 rfl (lv_room (Nat.le_of_ble_eq_true rfl)) dX5_hasDucks_3 ⟨Nat.zero_le _, Nat.zero_le _⟩) hD hS hA moF (fun H locs hP hD hS => ?_)
  refine lv_eqi (y := (m_z M) (8 + 5 * p + 3)) rfl ?_
  refine lv_iconst (v := 1) hx hb dX5_hasDucks_6 (by decide) ?_
  refine lv_icmp_ne (tgt := 14) hx hb dX5_hasDucks_7 (by decide) (fun c_1 => ?_) (fun c_1 => ?_)
  · skip
    refine lv_iconst (v := 0) hx hb dX5_hasDucks_14 (by decide) ?_
    refine lv_eqi (y := zDk (m_z M) p) (by rw [zDk, if_neg c_1]) ?_
    exact hret _ _ _ _ hP hS dX5_hasDucks_15
  · skip
    refine lv_iconst (v := 1) hx hb dX5_hasDucks_10 (by decide) ?_
    refine lv_goto (tgt := 15) hx hb dX5_hasDucks_11 (by decide) ?_
    refine lv_eqi (y := zDk (m_z M) p) (by rw [zDk, if_pos c_1]) ?_
    exact hret _ _ _ _ hP hS dX5_hasDucks_15
set_option maxHeartbeats 4000000 in
set_option maxRecDepth 100000 in
theorem c_X5_depth (l : Launch) (G : va_G) (ca : Nat → ClassId) (h : Nat) (a : Nat → Nat) (M : MM) (p : Nat) (hp : p < 12) : CtI l yX5_depth wsX5_depth ({ frames := 1, cells := 0, slots := 0, locals := 22 }) [.ref h, .int (nI p)] G ca (moT ca h a M) (moT ca h a M) (m_z M (8 + 5 * p + 1) / 5) := by
  refine CtI.ofW (cc := cX5_depth) (maxL := 2) (rt := .int) (by decide) rfl (Nat.le_of_ble_eq_true rfl) rfl ?_
  intro pr en s m be me c A ls Q H hx hb hml hts hown hev hP hD hA hS hl hret
  have hown : s.vm.findClass RX5 = some m.cls := hown
  have hl : lv_has ls 2 [(0, .ref h), (1, .int (nI p))] := hl
  have in_wsX50 : ∀ w ∈ wsX50, w ∈ wsX5_depth := fun _ h => List.mem_cons_of_mem _ (List.mem_append_right _ h)
  refine lv_aload_n hx hb dX5_depth_0 rfl (lv_at hl 0 rfl) ?_
  refine lv_iload_n hx hb dX5_depth_1 rfl (lv_at hl 1 rfl) ?_
  refine lv_iconst (v := nI 1) hx hb dX5_depth_2 (by decide) ?_
  refine goIw (va_runV (As := [.int (nI p), .int (nI 1)]) (rest := []) ⟨hx, hb, hml, hown, hts⟩ (CtI.use (c_X5_of l G ca h a M p 1 (by omega) (by omega)) H.size) (cwV 2 hts gX5_depth_X5_of rfl rfl rfl (by decide +kernel) ⟨Nat.le_of_ble_eq_true rfl, Nat.le_of_ble_eq_true rfl⟩) (pcW_V hev hP hD (q0 := 0) rfl rfl rfl) rfl rfl hl.1 rfl (lv_room (Nat.le_of_ble_eq_true rfl)) dX5_depth_3 ⟨Nat.zero_le _, Nat.zero_le _⟩) hD hS hA moF (fun H locs hP hD hS => ?_)
  refine lv_eqi (y := (m_z M) (8 + 5 * p + 1)) rfl ?_
  refine lv_iconst (v := 5) hx hb dX5_depth_6 (by decide) ?_
  refine lv_idiv hx hb dX5_depth_7 (by decide) ?_
  refine lv_eqi (y := m_z M (8 + 5 * p + 1) / 5) rfl ?_
  exact hret _ _ _ _ hP hS dX5_depth_8
set_option maxHeartbeats 4000000 in
set_option maxRecDepth 100000 in
theorem c_X5_size (l : Launch) (G : va_G) (ca : Nat → ClassId) (x : Int32) : CtI l yX5_size wsX5_size ({ frames := 0, cells := 0, slots := 0, locals := 0 }) [.int x] G ca ([]) ([]) (szN x) := by
  refine CtI.ofW (cc := cX5_size) (maxL := 3) (rt := .int) (by decide) rfl (Nat.le_of_ble_eq_true rfl) rfl ?_
  intro pr en s m be me c A ls Q H hx hb hml hts hown hev hP hD hA hS hl hret
  have hown : s.vm.findClass RX5 = some m.cls := hown
  have hl : lv_has ls 3 [(0, .int x)] := hl
  refine lv_iconst (v := 0) hx hb dX5_size_0 (by decide) ?_
  refine lv_istore_n (lv' := [(1, .int 0), (0, .int x)]) hx hb dX5_size_1 rfl hl (by decide) rfl (fun ls hl => ?_)
  refine lv_iconst (v := nI 0) hx hb dX5_size_2 (by decide) ?_
  refine lv_istore_n (lv' := [(2, .int (nI 0)), (1, .int 0), (0, .int x)]) hx hb dX5_size_3 rfl hl (by decide) rfl (fun ls hl => ?_)
  have loop_4 : ∀ (n i : Nat), i + n = 12 → ∀ (H : Heap) (locs : List Loc) (ls : Array Slot), va_P G vwCl ([]) H → va_D A ([]) → va_S A s.heap H locs → lv_has ls 3 [(0, .int x), (1, .int (smD (fun k => (x >>> (nI k &&& 31)) &&& 1) i)), (2, .int (nI i))] → W pr l en ({ frames := 0, cells := 0, slots := 0, locals := 0 } : Room) s m ([.int x] : List Value).toArray be me c H locs 0 0 Q (F0 m 4 ls []) := by
    intro n
    induction n with
    | zero =>
      intro i hi H locs ls hP hD hS hl
      obtain rfl : i = 12 := by omega
      refine lv_iload_n hx hb dX5_size_4 rfl (lv_at hl 2 rfl) ?_
      refine lv_bipush (v := nI 12) hx hb dX5_size_5 (by decide) ?_
      refine lv_icmp_ge (tgt := 24) hx hb dX5_size_7 (by decide) (fun c_1 => ?_) (fun c_1 => ?_)
      · skip
        refine lv_iload_n hx hb dX5_size_24 rfl (lv_at hl 1 rfl) ?_
        refine lv_eqi (y := szN x) rfl ?_
        exact hret _ _ _ _ hP hS dX5_size_25
      · skip
        exact absurd (nI_le (by omega) (by omega)) c_1
    | succ n ih =>
      intro i hi H locs ls hP hD hS hl
      have hlt : i < 12 := by omega
      refine lv_iload_n hx hb dX5_size_4 rfl (lv_at hl 2 rfl) ?_
      refine lv_bipush (v := nI 12) hx hb dX5_size_5 (by decide) ?_
      refine lv_icmp_ge (tgt := 24) hx hb dX5_size_7 (by decide) (fun c_2 => ?_) (fun c_2 => ?_)
      · skip
        exact absurd c_2 (nI_ge (by omega) (by omega))
      · skip
        refine lv_iload_n hx hb dX5_size_10 rfl (lv_at hl 1 rfl) ?_
        refine lv_iload_n hx hb dX5_size_11 rfl (lv_at hl 0 rfl) ?_
        refine lv_iload_n hx hb dX5_size_12 rfl (lv_at hl 2 rfl) ?_
        refine lv_ishr hx hb dX5_size_13 ?_
        refine lv_iconst (v := 1) hx hb dX5_size_14 (by decide) ?_
        refine lv_iand hx hb dX5_size_15 ?_
        refine lv_iadd hx hb dX5_size_16 ?_
        refine lv_istore_n (lv' := [(1, .int ((smD (fun k => (x >>> (nI k &&& 31)) &&& 1) i) + ((x >>> ((nI i) &&& 31)) &&& 1))), (0, .int x), (2, .int (nI i))]) hx hb dX5_size_17 rfl hl (by decide) rfl (fun ls hl => ?_)
        refine lv_iinc (v := nI (i + 1)) (lv' := [(2, .int (nI (i + 1))), (1, .int ((smD (fun k => (x >>> (nI k &&& 31)) &&& 1) i) + ((x >>> ((nI i) &&& 31)) &&& 1))), (0, .int x)]) hx hb dX5_size_18 hl (k := 2) rfl (nI_1 _) (by decide) rfl (fun ls hl => ?_)
        refine lv_goto (tgt := 4) hx hb dX5_size_21 (by decide) ?_
        exact ih (i + 1) (by omega) _ _ _ hP (D_of hD rfl) hS (lv_sub hl [2, 1, 0] rfl)
  exact loop_4 12 0 (by omega) _ _ _ hP (D_of hD rfl) hS (lv_sub hl [2, 1, 0] rfl)
set_option maxHeartbeats 4000000 in
set_option maxRecDepth 100000 in
theorem c_X5_permits (l : Launch) (G : va_G) (ca : Nat → ClassId) (h : Nat) (a : Nat → Nat) (M : MM) (w : Nat) (hw : w < 6) : CtI l yX5_permits wsX5_permits ({ frames := 1, cells := 0, slots := 0, locals := 22 }) [.ref h, .int (nI w)] G ca (moT ca h a M) (moT ca h a M) (orD (zPg (m_z M) w) 12) := by
  refine CtI.ofW (cc := cX5_permits) (maxL := 4) (rt := .int) (by decide) rfl (Nat.le_of_ble_eq_true rfl) rfl ?_
  intro pr en s m be me c A ls Q H hx hb hml hts hown hev hP hD hA hS hl hret
  have hown : s.vm.findClass RX5 = some m.cls := hown
  have hl : lv_has ls 4 [(0, .ref h), (1, .int (nI w))] := hl
  have in_wsX50 : ∀ w ∈ wsX50, w ∈ wsX5_permits := fun _ h => List.mem_cons_of_mem _ (List.mem_append_right _ h)
  refine lv_iconst (v := 0) hx hb dX5_permits_0 (by decide) ?_
  refine lv_istore_n (lv' := [(2, .int 0), (0, .ref h), (1, .int (nI w))]) hx hb dX5_permits_1 rfl hl (by decide) rfl (fun ls hl => ?_)
  refine lv_iconst (v := nI 0) hx hb dX5_permits_2 (by decide) ?_
  refine lv_istore_n (lv' := [(3, .int (nI 0)), (2, .int 0), (0, .ref h), (1, .int (nI w))]) hx hb dX5_permits_3 rfl hl (by decide) rfl (fun ls hl => ?_)
  have loop_4 : ∀ (n i : Nat), i + n = 12 → ∀ (H : Heap) (locs : List Loc) (ls : Array Slot), va_P G vwCl (moT ca h a M) H → va_D A (moT ca h a M) → va_S A s.heap H locs → lv_has ls 4 [(0, .ref h), (1, .int (nI w)), (2, .int (orD (zPg (m_z M) w) i)), (3, .int (nI i))] → W pr l en ({ frames := 1, cells := 0, slots := 0, locals := 22 } : Room) s m ([.ref h, .int (nI w)] : List Value).toArray be me c H locs 0 0 Q (F0 m 4 ls []) := by
    intro n
    induction n with
    | zero =>
      intro i hi H locs ls hP hD hS hl
      obtain rfl : i = 12 := by omega
      refine lv_iload_n hx hb dX5_permits_4 rfl (lv_at hl 3 rfl) ?_
      refine lv_bipush (v := nI 12) hx hb dX5_permits_5 (by decide) ?_
      refine lv_icmp_ge (tgt := 35) hx hb dX5_permits_7 (by decide) (fun c_1 => ?_) (fun c_1 => ?_)
      · skip
        refine lv_iload_n hx hb dX5_permits_35 rfl (lv_at hl 2 rfl) ?_
        exact hret _ _ _ _ hP hS dX5_permits_36
      · skip
        exact absurd (nI_le (by omega) (by omega)) c_1
    | succ n ih =>
      intro i hi H locs ls hP hD hS hl
      have hlt : i < 12 := by omega
      refine lv_iload_n hx hb dX5_permits_4 rfl (lv_at hl 3 rfl) ?_
      refine lv_bipush (v := nI 12) hx hb dX5_permits_5 (by decide) ?_
      refine lv_icmp_ge (tgt := 35) hx hb dX5_permits_7 (by decide) (fun c_2 => ?_) (fun c_2 => ?_)
      · skip
        exact absurd c_2 (nI_ge (by omega) (by omega))
      · skip
        refine lv_iload_n hx hb dX5_permits_10 rfl (lv_at hl 2 rfl) ?_
        refine lv_aload_n hx hb dX5_permits_11 rfl (lv_at hl 0 rfl) ?_
        refine lv_iload_n hx hb dX5_permits_12 rfl (lv_at hl 1 rfl) ?_
        refine lv_iload_n hx hb dX5_permits_13 rfl (lv_at hl 3 rfl) ?_
        refine goIw (va_runV (As := [.int (nI w), .int (nI i)]) (rest := [.int (orD (zPg (m_z M) w) i)]) ⟨hx, hb, hml, hown, hts⟩ (CtI.use (c_X5_days l G ca h a M w i (by omega) (by omega)) H.size) (cwV 2 hts gX5_permits_X5_days rfl rfl rfl (by decide +kernel) ⟨Nat.le_of_ble_eq_true rfl, Nat.le_of_ble_eq_true rfl⟩) (pcW_V hev hP hD (q0 := 0) rfl rfl rfl) rfl rfl hl.1 rfl (lv_room (Nat.le_of_ble_eq_true rfl)) dX5_permits_14 ⟨Nat.zero_le _, Nat.zero_le _⟩) hD hS hA moF (fun H locs hP hD hS => ?_)
        refine lv_eqi (y := (m_z M) (92 + 12 * w + i)) rfl ?_
        refine lv_if_le (tgt := 26) hx hb dX5_permits_17 (by decide) (fun c_3 => ?_) (fun c_3 => ?_)
        · skip
          refine lv_iconst (v := 0) hx hb dX5_permits_26 (by decide) ?_
          refine lv_ior hx hb dX5_permits_27 ?_
          refine lv_istore_n (lv' := [(2, .int ((orD (zPg (m_z M) w) i) ||| 0)), (0, .ref h), (1, .int (nI w)), (3, .int (nI i))]) hx hb dX5_permits_28 rfl hl (by decide) rfl (fun ls hl => ?_)
          refine lv_iinc (v := nI (i + 1)) (lv' := [(3, .int (nI (i + 1))), (2, .int ((orD (zPg (m_z M) w) i) ||| 0)), (0, .ref h), (1, .int (nI w))]) hx hb dX5_permits_29 hl (k := 3) rfl (nI_1 _) (by decide) rfl (fun ls hl => ?_)
          refine lv_goto (tgt := 4) hx hb dX5_permits_32 (by decide) ?_
          exact ih (i + 1) (by omega) _ _ _ hP (D_of hD moF) hS (by rw [show (orD (zPg (m_z M) w) (i + 1)) = ((orD (zPg (m_z M) w) i) ||| 0) from by rw [orD_s, zPg, if_pos c_3]]; exact lv_sub hl [2, 3, 1, 0] rfl)
        · skip
          refine lv_iconst (v := 1) hx hb dX5_permits_20 (by decide) ?_
          refine lv_iload_n hx hb dX5_permits_21 rfl (lv_at hl 3 rfl) ?_
          refine lv_ishl hx hb dX5_permits_22 ?_
          refine lv_goto (tgt := 27) hx hb dX5_permits_23 (by decide) ?_
          refine lv_ior hx hb dX5_permits_27 ?_
          refine lv_istore_n (lv' := [(2, .int ((orD (zPg (m_z M) w) i) ||| (1 <<< ((nI i) &&& 31)))), (0, .ref h), (1, .int (nI w)), (3, .int (nI i))]) hx hb dX5_permits_28 rfl hl (by decide) rfl (fun ls hl => ?_)
          refine lv_iinc (v := nI (i + 1)) (lv' := [(3, .int (nI (i + 1))), (2, .int ((orD (zPg (m_z M) w) i) ||| (1 <<< ((nI i) &&& 31)))), (0, .ref h), (1, .int (nI w))]) hx hb dX5_permits_29 hl (k := 3) rfl (nI_1 _) (by decide) rfl (fun ls hl => ?_)
          refine lv_goto (tgt := 4) hx hb dX5_permits_32 (by decide) ?_
          exact ih (i + 1) (by omega) _ _ _ hP (D_of hD moF) hS (by rw [show (orD (zPg (m_z M) w) (i + 1)) = ((orD (zPg (m_z M) w) i) ||| (1 <<< ((nI i) &&& 31))) from by rw [orD_s, zPg, if_neg c_3]]; exact lv_sub hl [2, 3, 1, 0] rfl)
  exact loop_4 12 0 (by omega) _ _ _ hP (D_of hD moF) hS (lv_sub hl [2, 3, 1, 0] rfl)
set_option maxHeartbeats 4000000 in
set_option maxRecDepth 100000 in
theorem c_X5_permitted (l : Launch) (G : va_G) (ca : Nat → ClassId) (h : Nat) (a : Nat → Nat) (M : MM) (p : Nat) (hp : p < 12) : CtI l yX5_permitted wsX5_permitted ({ frames := 1, cells := 0, slots := 0, locals := 22 }) [.ref h, .int (nI p)] G ca (moT ca h a M) (moT ca h a M) (orD (zHg (m_z M) p) 6) := by
  refine CtI.ofW (cc := cX5_permitted) (maxL := 4) (rt := .int) (by decide) rfl (Nat.le_of_ble_eq_true rfl) rfl ?_
  intro pr en s m be me c A ls Q H hx hb hml hts hown hev hP hD hA hS hl hret
  have hown : s.vm.findClass RX5 = some m.cls := hown
  have hl : lv_has ls 4 [(0, .ref h), (1, .int (nI p))] := hl
  have in_wsX50 : ∀ w ∈ wsX50, w ∈ wsX5_permitted := fun _ h => List.mem_cons_of_mem _ (List.mem_append_right _ h)
  refine lv_iconst (v := 0) hx hb dX5_permitted_0 (by decide) ?_
  refine lv_istore_n (lv' := [(2, .int 0), (0, .ref h), (1, .int (nI p))]) hx hb dX5_permitted_1 rfl hl (by decide) rfl (fun ls hl => ?_)
  refine lv_iconst (v := nI 0) hx hb dX5_permitted_2 (by decide) ?_
  refine lv_istore_n (lv' := [(3, .int (nI 0)), (2, .int 0), (0, .ref h), (1, .int (nI p))]) hx hb dX5_permitted_3 rfl hl (by decide) rfl (fun ls hl => ?_)
  have loop_4 : ∀ (n i : Nat), i + n = 6 → ∀ (H : Heap) (locs : List Loc) (ls : Array Slot), va_P G vwCl (moT ca h a M) H → va_D A (moT ca h a M) → va_S A s.heap H locs → lv_has ls 4 [(0, .ref h), (1, .int (nI p)), (2, .int (orD (zHg (m_z M) p) i)), (3, .int (nI i))] → W pr l en ({ frames := 1, cells := 0, slots := 0, locals := 22 } : Room) s m ([.ref h, .int (nI p)] : List Value).toArray be me c H locs 0 0 Q (F0 m 4 ls []) := by
    intro n
    induction n with
    | zero =>
      intro i hi H locs ls hP hD hS hl
      obtain rfl : i = 6 := by omega
      refine lv_iload_n hx hb dX5_permitted_4 rfl (lv_at hl 3 rfl) ?_
      refine lv_bipush (v := nI 6) hx hb dX5_permitted_5 (by decide) ?_
      refine lv_icmp_ge (tgt := 35) hx hb dX5_permitted_7 (by decide) (fun c_1 => ?_) (fun c_1 => ?_)
      · skip
        refine lv_iload_n hx hb dX5_permitted_35 rfl (lv_at hl 2 rfl) ?_
        exact hret _ _ _ _ hP hS dX5_permitted_36
      · skip
        exact absurd (nI_le (by omega) (by omega)) c_1
    | succ n ih =>
      intro i hi H locs ls hP hD hS hl
      have hlt : i < 6 := by omega
      refine lv_iload_n hx hb dX5_permitted_4 rfl (lv_at hl 3 rfl) ?_
      refine lv_bipush (v := nI 6) hx hb dX5_permitted_5 (by decide) ?_
      refine lv_icmp_ge (tgt := 35) hx hb dX5_permitted_7 (by decide) (fun c_2 => ?_) (fun c_2 => ?_)
      · skip
        exact absurd c_2 (nI_ge (by omega) (by omega))
      · skip
        refine lv_iload_n hx hb dX5_permitted_10 rfl (lv_at hl 2 rfl) ?_
        refine lv_aload_n hx hb dX5_permitted_11 rfl (lv_at hl 0 rfl) ?_
        refine lv_iload_n hx hb dX5_permitted_12 rfl (lv_at hl 3 rfl) ?_
        refine lv_iload_n hx hb dX5_permitted_13 rfl (lv_at hl 1 rfl) ?_
        refine goIw (va_runV (As := [.int (nI i), .int (nI p)]) (rest := [.int (orD (zHg (m_z M) p) i)]) ⟨hx, hb, hml, hown, hts⟩ (CtI.use (c_X5_days l G ca h a M i p (by omega) (by omega)) H.size) (cwV 2 hts gX5_permitted_X5_days rfl rfl rfl (by decide +kernel) ⟨Nat.le_of_ble_eq_true rfl, Nat.le_of_ble_eq_true rfl⟩) (pcW_V hev hP hD (q0 := 0) rfl rfl rfl) rfl rfl hl.1 rfl (lv_room (Nat.le_of_ble_eq_true rfl)) dX5_permitted_14 ⟨Nat.zero_le _, Nat.zero_le _⟩) hD hS hA moF (fun H locs hP hD hS => ?_)
        refine lv_eqi (y := (m_z M) (92 + 12 * i + p)) rfl ?_
        refine lv_if_le (tgt := 26) hx hb dX5_permitted_17 (by decide) (fun c_3 => ?_) (fun c_3 => ?_)
        · skip
          refine lv_iconst (v := 0) hx hb dX5_permitted_26 (by decide) ?_
          refine lv_ior hx hb dX5_permitted_27 ?_
          refine lv_istore_n (lv' := [(2, .int ((orD (zHg (m_z M) p) i) ||| 0)), (0, .ref h), (1, .int (nI p)), (3, .int (nI i))]) hx hb dX5_permitted_28 rfl hl (by decide) rfl (fun ls hl => ?_)
          refine lv_iinc (v := nI (i + 1)) (lv' := [(3, .int (nI (i + 1))), (2, .int ((orD (zHg (m_z M) p) i) ||| 0)), (0, .ref h), (1, .int (nI p))]) hx hb dX5_permitted_29 hl (k := 3) rfl (nI_1 _) (by decide) rfl (fun ls hl => ?_)
          refine lv_goto (tgt := 4) hx hb dX5_permitted_32 (by decide) ?_
          exact ih (i + 1) (by omega) _ _ _ hP (D_of hD moF) hS (by rw [show (orD (zHg (m_z M) p) (i + 1)) = ((orD (zHg (m_z M) p) i) ||| 0) from by rw [orD_s, zHg, if_pos c_3]]; exact lv_sub hl [2, 3, 1, 0] rfl)
        · skip
          refine lv_iconst (v := 1) hx hb dX5_permitted_20 (by decide) ?_
          refine lv_iload_n hx hb dX5_permitted_21 rfl (lv_at hl 3 rfl) ?_
          refine lv_ishl hx hb dX5_permitted_22 ?_
          refine lv_goto (tgt := 27) hx hb dX5_permitted_23 (by decide) ?_
          refine lv_ior hx hb dX5_permitted_27 ?_
          refine lv_istore_n (lv' := [(2, .int ((orD (zHg (m_z M) p) i) ||| (1 <<< ((nI i) &&& 31)))), (0, .ref h), (1, .int (nI p)), (3, .int (nI i))]) hx hb dX5_permitted_28 rfl hl (by decide) rfl (fun ls hl => ?_)
          refine lv_iinc (v := nI (i + 1)) (lv' := [(3, .int (nI (i + 1))), (2, .int ((orD (zHg (m_z M) p) i) ||| (1 <<< ((nI i) &&& 31)))), (0, .ref h), (1, .int (nI p))]) hx hb dX5_permitted_29 hl (k := 3) rfl (nI_1 _) (by decide) rfl (fun ls hl => ?_)
          refine lv_goto (tgt := 4) hx hb dX5_permitted_32 (by decide) ?_
          exact ih (i + 1) (by omega) _ _ _ hP (D_of hD moF) hS (by rw [show (orD (zHg (m_z M) p) (i + 1)) = ((orD (zHg (m_z M) p) i) ||| (1 <<< ((nI i) &&& 31))) from by rw [orD_s, zHg, if_neg c_3]]; exact lv_sub hl [2, 3, 1, 0] rfl)
  exact loop_4 6 0 (by omega) _ _ _ hP (D_of hD moF) hS (lv_sub hl [2, 3, 1, 0] rfl)
set_option maxHeartbeats 4000000 in
set_option maxRecDepth 100000 in
theorem c_X5_puddlesWith (l : Launch) (G : va_G) (ca : Nat → ClassId) (h : Nat) (a : Nat → Nat) (M : MM) (k : Nat) (hk : k < 5) : CtI l yX5_puddlesWith wsX5_puddlesWith ({ frames := 1, cells := 0, slots := 0, locals := 22 }) [.ref h, .int (nI k)] G ca (moT ca h a M) (moT ca h a M) (orD (zWg (m_z M) k) 12) := by
  refine CtI.ofW (cc := cX5_puddlesWith) (maxL := 4) (rt := .int) (by decide) rfl (Nat.le_of_ble_eq_true rfl) rfl ?_
  intro pr en s m be me c A ls Q H hx hb hml hts hown hev hP hD hA hS hl hret
  have hown : s.vm.findClass RX5 = some m.cls := hown
  have hl : lv_has ls 4 [(0, .ref h), (1, .int (nI k))] := hl
  have in_wsX50 : ∀ w ∈ wsX50, w ∈ wsX5_puddlesWith := fun _ h => List.mem_cons_of_mem _ (List.mem_append_right _ h)
  refine lv_iconst (v := 0) hx hb dX5_puddlesWith_0 (by decide) ?_
  refine lv_istore_n (lv' := [(2, .int 0), (0, .ref h), (1, .int (nI k))]) hx hb dX5_puddlesWith_1 rfl hl (by decide) rfl (fun ls hl => ?_)
  refine lv_iconst (v := nI 0) hx hb dX5_puddlesWith_2 (by decide) ?_
  refine lv_istore_n (lv' := [(3, .int (nI 0)), (2, .int 0), (0, .ref h), (1, .int (nI k))]) hx hb dX5_puddlesWith_3 rfl hl (by decide) rfl (fun ls hl => ?_)
  have loop_4 : ∀ (n i : Nat), i + n = 12 → ∀ (H : Heap) (locs : List Loc) (ls : Array Slot), va_P G vwCl (moT ca h a M) H → va_D A (moT ca h a M) → va_S A s.heap H locs → lv_has ls 4 [(0, .ref h), (1, .int (nI k)), (2, .int (orD (zWg (m_z M) k) i)), (3, .int (nI i))] → W pr l en ({ frames := 1, cells := 0, slots := 0, locals := 22 } : Room) s m ([.ref h, .int (nI k)] : List Value).toArray be me c H locs 0 0 Q (F0 m 4 ls []) := by
    intro n
    induction n with
    | zero =>
      intro i hi H locs ls hP hD hS hl
      obtain rfl : i = 12 := by omega
      refine lv_iload_n hx hb dX5_puddlesWith_4 rfl (lv_at hl 3 rfl) ?_
      refine lv_bipush (v := nI 12) hx hb dX5_puddlesWith_5 (by decide) ?_
      refine lv_icmp_ge (tgt := 27) hx hb dX5_puddlesWith_7 (by decide) (fun c_1 => ?_) (fun c_1 => ?_)
      · skip
        refine lv_iload_n hx hb dX5_puddlesWith_27 rfl (lv_at hl 2 rfl) ?_
        exact hret _ _ _ _ hP hS dX5_puddlesWith_28
      · skip
        exact absurd (nI_le (by omega) (by omega)) c_1
    | succ n ih =>
      intro i hi H locs ls hP hD hS hl
      have hlt : i < 12 := by omega
      refine lv_iload_n hx hb dX5_puddlesWith_4 rfl (lv_at hl 3 rfl) ?_
      refine lv_bipush (v := nI 12) hx hb dX5_puddlesWith_5 (by decide) ?_
      refine lv_icmp_ge (tgt := 27) hx hb dX5_puddlesWith_7 (by decide) (fun c_2 => ?_) (fun c_2 => ?_)
      · skip
        exact absurd c_2 (nI_ge (by omega) (by omega))
      · skip
        refine lv_iload_n hx hb dX5_puddlesWith_10 rfl (lv_at hl 2 rfl) ?_
        refine lv_aload_n hx hb dX5_puddlesWith_11 rfl (lv_at hl 0 rfl) ?_
        refine lv_iload_n hx hb dX5_puddlesWith_12 rfl (lv_at hl 3 rfl) ?_
        refine lv_iload_n hx hb dX5_puddlesWith_13 rfl (lv_at hl 1 rfl) ?_
        refine goIw (va_runV (As := [.int (nI i), .int (nI k)]) (rest := [.int (orD (zWg (m_z M) k) i)]) ⟨hx, hb, hml, hown, hts⟩ (CtI.use (c_X5_of l G ca h a M i k (by omega) (by omega)) H.size) (cwV 2 hts gX5_puddlesWith_X5_of rfl rfl rfl (by decide +kernel) ⟨Nat.le_of_ble_eq_true rfl, Nat.le_of_ble_eq_true rfl⟩) (pcW_V hev hP hD (q0 := 0) rfl rfl rfl) rfl rfl hl.1 rfl (lv_room (Nat.le_of_ble_eq_true rfl)) dX5_puddlesWith_14 ⟨Nat.zero_le _, Nat.zero_le _⟩) hD hS hA moF (fun H locs hP hD hS => ?_)
        refine lv_eqi (y := (m_z M) (8 + 5 * i + k)) rfl ?_
        refine lv_iload_n hx hb dX5_puddlesWith_17 rfl (lv_at hl 3 rfl) ?_
        refine lv_ishl hx hb dX5_puddlesWith_18 ?_
        refine lv_ior hx hb dX5_puddlesWith_19 ?_
        refine lv_istore_n (lv' := [(2, .int ((orD (zWg (m_z M) k) i) ||| (((m_z M) (8 + 5 * i + k)) <<< ((nI i) &&& 31)))), (0, .ref h), (1, .int (nI k)), (3, .int (nI i))]) hx hb dX5_puddlesWith_20 rfl hl (by decide) rfl (fun ls hl => ?_)
        refine lv_iinc (v := nI (i + 1)) (lv' := [(3, .int (nI (i + 1))), (2, .int ((orD (zWg (m_z M) k) i) ||| (((m_z M) (8 + 5 * i + k)) <<< ((nI i) &&& 31)))), (0, .ref h), (1, .int (nI k))]) hx hb dX5_puddlesWith_21 hl (k := 3) rfl (nI_1 _) (by decide) rfl (fun ls hl => ?_)
        refine lv_goto (tgt := 4) hx hb dX5_puddlesWith_24 (by decide) ?_
        exact ih (i + 1) (by omega) _ _ _ hP (D_of hD moF) hS (lv_sub hl [2, 3, 1, 0] rfl)
  exact loop_4 12 0 (by omega) _ _ _ hP (D_of hD moF) hS (lv_sub hl [2, 3, 1, 0] rfl)
set_option maxHeartbeats 4000000 in
set_option maxRecDepth 100000 in
theorem c_X5_allPermits (l : Launch) (G : va_G) (ca : Nat → ClassId) (h : Nat) (a : Nat → Nat) (M : MM) : CtI l yX5_allPermits wsX5_allPermits ({ frames := 2, cells := 0, slots := 0, locals := 45 }) [.ref h] G ca (moT ca h a M) (moT ca h a M) (smD (fun w => szN (orD (zPg (m_z M) w) 12)) 6) := by
  refine CtI.ofW (cc := cX5_allPermits) (maxL := 3) (rt := .int) (by decide) rfl (Nat.le_of_ble_eq_true rfl) rfl ?_
  intro pr en s m be me c A ls Q H hx hb hml hts hown hev hP hD hA hS hl hret
  have hown : s.vm.findClass RX5 = some m.cls := hown
  have hl : lv_has ls 3 [(0, .ref h)] := hl
  have in_wsX50 : ∀ w ∈ wsX50, w ∈ wsX5_allPermits := fun _ h => List.mem_cons_of_mem _ (List.mem_append_right _ h)
  refine lv_iconst (v := 0) hx hb dX5_allPermits_0 (by decide) ?_
  refine lv_istore_n (lv' := [(1, .int 0), (0, .ref h)]) hx hb dX5_allPermits_1 rfl hl (by decide) rfl (fun ls hl => ?_)
  refine lv_iconst (v := nI 0) hx hb dX5_allPermits_2 (by decide) ?_
  refine lv_istore_n (lv' := [(2, .int (nI 0)), (1, .int 0), (0, .ref h)]) hx hb dX5_allPermits_3 rfl hl (by decide) rfl (fun ls hl => ?_)
  have loop_4 : ∀ (n i : Nat), i + n = 6 → ∀ (H : Heap) (locs : List Loc) (ls : Array Slot), va_P G vwCl (moT ca h a M) H → va_D A (moT ca h a M) → va_S A s.heap H locs → lv_has ls 3 [(0, .ref h), (1, .int (smD (fun w => szN (orD (zPg (m_z M) w) 12)) i)), (2, .int (nI i))] → W pr l en ({ frames := 2, cells := 0, slots := 0, locals := 45 } : Room) s m ([.ref h] : List Value).toArray be me c H locs 0 0 Q (F0 m 4 ls []) := by
    intro n
    induction n with
    | zero =>
      intro i hi H locs ls hP hD hS hl
      obtain rfl : i = 6 := by omega
      refine lv_iload_n hx hb dX5_allPermits_4 rfl (lv_at hl 2 rfl) ?_
      refine lv_bipush (v := nI 6) hx hb dX5_allPermits_5 (by decide) ?_
      refine lv_icmp_ge (tgt := 27) hx hb dX5_allPermits_7 (by decide) (fun c_1 => ?_) (fun c_1 => ?_)
      · skip
        refine lv_iload_n hx hb dX5_allPermits_27 rfl (lv_at hl 1 rfl) ?_
        exact hret _ _ _ _ hP hS dX5_allPermits_28
      · skip
        exact absurd (nI_le (by omega) (by omega)) c_1
    | succ n ih =>
      intro i hi H locs ls hP hD hS hl
      have hlt : i < 6 := by omega
      refine lv_iload_n hx hb dX5_allPermits_4 rfl (lv_at hl 2 rfl) ?_
      refine lv_bipush (v := nI 6) hx hb dX5_allPermits_5 (by decide) ?_
      refine lv_icmp_ge (tgt := 27) hx hb dX5_allPermits_7 (by decide) (fun c_2 => ?_) (fun c_2 => ?_)
      · skip
        exact absurd c_2 (nI_ge (by omega) (by omega))
      · skip
        refine lv_iload_n hx hb dX5_allPermits_10 rfl (lv_at hl 1 rfl) ?_
        refine lv_aload_n hx hb dX5_allPermits_11 rfl (lv_at hl 0 rfl) ?_
        refine lv_iload_n hx hb dX5_allPermits_12 rfl (lv_at hl 2 rfl) ?_
        refine goIw (va_runV (As := [.int (nI i)]) (rest := [.int (smD (fun w => szN (orD (zPg (m_z M) w) 12)) i)]) ⟨hx, hb, hml, hown, hts⟩ (CtI.use (c_X5_permits l G ca h a M i (by omega)) H.size) (cwV 1 hts gX5_allPermits_X5_permits rfl rfl rfl (by decide +kernel) ⟨Nat.le_of_ble_eq_true rfl, Nat.le_of_ble_eq_true rfl⟩) (pcW_V hev hP hD (q0 := 0) rfl rfl rfl) rfl rfl hl.1 rfl (lv_room (Nat.le_of_ble_eq_true rfl)) dX5_allPermits_13 ⟨Nat.zero_le _, Nat.zero_le _⟩) hD hS hA moF (fun H locs hP hD hS => ?_)
        refine goI0 (va_runS (As := [.int (orD (zPg (m_z M) i) 12)]) (rest := [.int (smD (fun w => szN (orD (zPg (m_z M) w) 12)) i)]) ⟨hx, hb, hml, hown, hts⟩ (CtI.use (c_X5_size l G ca (orD (zPg (m_z M) i) 12)) H.size) (va_cwS 1 hts gX5_allPermits_X5_size rfl rfl rfl (by decide +kernel) ⟨Nat.le_of_ble_eq_true rfl, Nat.le_of_ble_eq_true rfl⟩) (pcW_S hev P_nil (D_nil (A := A))) rfl rfl hl.1 rfl (lv_room (Nat.le_of_ble_eq_true rfl)) dX5_allPermits_16 ⟨Nat.zero_le _, Nat.zero_le _⟩) hP hS hA (fun H locs hP hS => ?_)
        refine lv_iadd hx hb dX5_allPermits_19 ?_
        refine lv_istore_n (lv' := [(1, .int ((smD (fun w => szN (orD (zPg (m_z M) w) 12)) i) + (szN (orD (zPg (m_z M) i) 12)))), (0, .ref h), (2, .int (nI i))]) hx hb dX5_allPermits_20 rfl hl (by decide) rfl (fun ls hl => ?_)
        refine lv_iinc (v := nI (i + 1)) (lv' := [(2, .int (nI (i + 1))), (1, .int ((smD (fun w => szN (orD (zPg (m_z M) w) 12)) i) + (szN (orD (zPg (m_z M) i) 12)))), (0, .ref h)]) hx hb dX5_allPermits_21 hl (k := 2) rfl (nI_1 _) (by decide) rfl (fun ls hl => ?_)
        refine lv_goto (tgt := 4) hx hb dX5_allPermits_24 (by decide) ?_
        exact ih (i + 1) (by omega) _ _ _ hP (D_of hD moF) hS (lv_sub hl [2, 1, 0] rfl)
  exact loop_4 6 0 (by omega) _ _ _ hP (D_of hD moF) hS (lv_sub hl [2, 1, 0] rfl)
set_option maxHeartbeats 4000000 in
set_option maxRecDepth 100000 in
theorem c_X5_sumOfWalkers (l : Launch) (G : va_G) (ca : Nat → ClassId) (h : Nat) (a : Nat → Nat) (M : MM) (k : Nat) (hk : k < 4) : CtI l yX5_sumOfWalkers wsX5_sumOfWalkers ({ frames := 1, cells := 0, slots := 0, locals := 22 }) [.ref h, .int (nI k)] G ca (moT ca h a M) (moT ca h a M) (smD (fun w => m_z M (68 + 4 * w + k)) 6) := by
  refine CtI.ofW (cc := cX5_sumOfWalkers) (maxL := 4) (rt := .int) (by decide) rfl (Nat.le_of_ble_eq_true rfl) rfl ?_
  intro pr en s m be me c A ls Q H hx hb hml hts hown hev hP hD hA hS hl hret
  have hown : s.vm.findClass RX5 = some m.cls := hown
  have hl : lv_has ls 4 [(0, .ref h), (1, .int (nI k))] := hl
  have in_wsX50 : ∀ w ∈ wsX50, w ∈ wsX5_sumOfWalkers := fun _ h => List.mem_cons_of_mem _ (List.mem_append_right _ h)
  refine lv_iconst (v := 0) hx hb dX5_sumOfWalkers_0 (by decide) ?_
  refine lv_istore_n (lv' := [(2, .int 0), (0, .ref h), (1, .int (nI k))]) hx hb dX5_sumOfWalkers_1 rfl hl (by decide) rfl (fun ls hl => ?_)
  refine lv_iconst (v := nI 0) hx hb dX5_sumOfWalkers_2 (by decide) ?_
  refine lv_istore_n (lv' := [(3, .int (nI 0)), (2, .int 0), (0, .ref h), (1, .int (nI k))]) hx hb dX5_sumOfWalkers_3 rfl hl (by decide) rfl (fun ls hl => ?_)
  have loop_4 : ∀ (n i : Nat), i + n = 6 → ∀ (H : Heap) (locs : List Loc) (ls : Array Slot), va_P G vwCl (moT ca h a M) H → va_D A (moT ca h a M) → va_S A s.heap H locs → lv_has ls 4 [(0, .ref h), (1, .int (nI k)), (2, .int (smD (fun w => m_z M (68 + 4 * w + k)) i)), (3, .int (nI i))] → W pr l en ({ frames := 1, cells := 0, slots := 0, locals := 22 } : Room) s m ([.ref h, .int (nI k)] : List Value).toArray be me c H locs 0 0 Q (F0 m 4 ls []) := by
    intro n
    induction n with
    | zero =>
      intro i hi H locs ls hP hD hS hl
      obtain rfl : i = 6 := by omega
      refine lv_iload_n hx hb dX5_sumOfWalkers_4 rfl (lv_at hl 3 rfl) ?_
      refine lv_bipush (v := nI 6) hx hb dX5_sumOfWalkers_5 (by decide) ?_
      refine lv_icmp_ge (tgt := 25) hx hb dX5_sumOfWalkers_7 (by decide) (fun c_1 => ?_) (fun c_1 => ?_)
      · skip
        refine lv_iload_n hx hb dX5_sumOfWalkers_25 rfl (lv_at hl 2 rfl) ?_
        exact hret _ _ _ _ hP hS dX5_sumOfWalkers_26
      · skip
        exact absurd (nI_le (by omega) (by omega)) c_1
    | succ n ih =>
      intro i hi H locs ls hP hD hS hl
      have hlt : i < 6 := by omega
      refine lv_iload_n hx hb dX5_sumOfWalkers_4 rfl (lv_at hl 3 rfl) ?_
      refine lv_bipush (v := nI 6) hx hb dX5_sumOfWalkers_5 (by decide) ?_
      refine lv_icmp_ge (tgt := 25) hx hb dX5_sumOfWalkers_7 (by decide) (fun c_2 => ?_) (fun c_2 => ?_)
      · skip
        exact absurd c_2 (nI_ge (by omega) (by omega))
      · skip
        refine lv_iload_n hx hb dX5_sumOfWalkers_10 rfl (lv_at hl 2 rfl) ?_
        refine lv_aload_n hx hb dX5_sumOfWalkers_11 rfl (lv_at hl 0 rfl) ?_
        refine lv_iload_n hx hb dX5_sumOfWalkers_12 rfl (lv_at hl 3 rfl) ?_
        refine lv_iload_n hx hb dX5_sumOfWalkers_13 rfl (lv_at hl 1 rfl) ?_
        refine goIw (va_runV (As := [.int (nI i), .int (nI k)]) (rest := [.int (smD (fun w => m_z M (68 + 4 * w + k)) i)]) ⟨hx, hb, hml, hown, hts⟩ (CtI.use (c_X5_ofWalker l G ca h a M i k (by omega) (by omega)) H.size) (cwV 2 hts gX5_sumOfWalkers_X5_ofWalker rfl rfl rfl (by decide +kernel) ⟨Nat.le_of_ble_eq_true rfl, Nat.le_of_ble_eq_true rfl⟩) (pcW_V hev hP hD (q0 := 0) rfl rfl rfl) rfl rfl hl.1 rfl (lv_room (Nat.le_of_ble_eq_true rfl)) dX5_sumOfWalkers_14 ⟨Nat.zero_le _, Nat.zero_le _⟩) hD hS hA moF (fun H locs hP hD hS => ?_)
        refine lv_eqi (y := (m_z M) (68 + 4 * i + k)) rfl ?_
        refine lv_iadd hx hb dX5_sumOfWalkers_17 ?_
        refine lv_istore_n (lv' := [(2, .int ((smD (fun w => m_z M (68 + 4 * w + k)) i) + ((m_z M) (68 + 4 * i + k)))), (0, .ref h), (1, .int (nI k)), (3, .int (nI i))]) hx hb dX5_sumOfWalkers_18 rfl hl (by decide) rfl (fun ls hl => ?_)
        refine lv_iinc (v := nI (i + 1)) (lv' := [(3, .int (nI (i + 1))), (2, .int ((smD (fun w => m_z M (68 + 4 * w + k)) i) + ((m_z M) (68 + 4 * i + k)))), (0, .ref h), (1, .int (nI k))]) hx hb dX5_sumOfWalkers_19 hl (k := 3) rfl (nI_1 _) (by decide) rfl (fun ls hl => ?_)
        refine lv_goto (tgt := 4) hx hb dX5_sumOfWalkers_22 (by decide) ?_
        exact ih (i + 1) (by omega) _ _ _ hP (D_of hD moF) hS (lv_sub hl [2, 3, 1, 0] rfl)
  exact loop_4 6 0 (by omega) _ _ _ hP (D_of hD moF) hS (lv_sub hl [2, 3, 1, 0] rfl)
set_option maxHeartbeats 4000000 in
set_option maxRecDepth 100000 in
theorem c_X5_water (l : Launch) (G : va_G) (ca : Nat → ClassId) (h : Nat) (a : Nat → Nat) (M : MM) : CtI l yX5_water wsX5_water ({ frames := 1, cells := 0, slots := 0, locals := 22 }) [.ref h] G ca (moT ca h a M) (moT ca h a M) (smD (fun p => m_z M (8 + 5 * p + 1)) 12) := by
  refine CtI.ofW (cc := cX5_water) (maxL := 3) (rt := .int) (by decide) rfl (Nat.le_of_ble_eq_true rfl) rfl ?_
  intro pr en s m be me c A ls Q H hx hb hml hts hown hev hP hD hA hS hl hret
  have hown : s.vm.findClass RX5 = some m.cls := hown
  have hl : lv_has ls 3 [(0, .ref h)] := hl
  have in_wsX50 : ∀ w ∈ wsX50, w ∈ wsX5_water := fun _ h => List.mem_cons_of_mem _ (List.mem_append_right _ h)
  refine lv_iconst (v := 0) hx hb dX5_water_0 (by decide) ?_
  refine lv_istore_n (lv' := [(1, .int 0), (0, .ref h)]) hx hb dX5_water_1 rfl hl (by decide) rfl (fun ls hl => ?_)
  refine lv_iconst (v := nI 0) hx hb dX5_water_2 (by decide) ?_
  refine lv_istore_n (lv' := [(2, .int (nI 0)), (1, .int 0), (0, .ref h)]) hx hb dX5_water_3 rfl hl (by decide) rfl (fun ls hl => ?_)
  have loop_4 : ∀ (n i : Nat), i + n = 12 → ∀ (H : Heap) (locs : List Loc) (ls : Array Slot), va_P G vwCl (moT ca h a M) H → va_D A (moT ca h a M) → va_S A s.heap H locs → lv_has ls 3 [(0, .ref h), (1, .int (smD (fun p => m_z M (8 + 5 * p + 1)) i)), (2, .int (nI i))] → W pr l en ({ frames := 1, cells := 0, slots := 0, locals := 22 } : Room) s m ([.ref h] : List Value).toArray be me c H locs 0 0 Q (F0 m 4 ls []) := by
    intro n
    induction n with
    | zero =>
      intro i hi H locs ls hP hD hS hl
      obtain rfl : i = 12 := by omega
      refine lv_iload_n hx hb dX5_water_4 rfl (lv_at hl 2 rfl) ?_
      refine lv_bipush (v := nI 12) hx hb dX5_water_5 (by decide) ?_
      refine lv_icmp_ge (tgt := 25) hx hb dX5_water_7 (by decide) (fun c_1 => ?_) (fun c_1 => ?_)
      · skip
        refine lv_iload_n hx hb dX5_water_25 rfl (lv_at hl 1 rfl) ?_
        exact hret _ _ _ _ hP hS dX5_water_26
      · skip
        exact absurd (nI_le (by omega) (by omega)) c_1
    | succ n ih =>
      intro i hi H locs ls hP hD hS hl
      have hlt : i < 12 := by omega
      refine lv_iload_n hx hb dX5_water_4 rfl (lv_at hl 2 rfl) ?_
      refine lv_bipush (v := nI 12) hx hb dX5_water_5 (by decide) ?_
      refine lv_icmp_ge (tgt := 25) hx hb dX5_water_7 (by decide) (fun c_2 => ?_) (fun c_2 => ?_)
      · skip
        exact absurd c_2 (nI_ge (by omega) (by omega))
      · skip
        refine lv_iload_n hx hb dX5_water_10 rfl (lv_at hl 1 rfl) ?_
        refine lv_aload_n hx hb dX5_water_11 rfl (lv_at hl 0 rfl) ?_
        refine lv_iload_n hx hb dX5_water_12 rfl (lv_at hl 2 rfl) ?_
        refine lv_iconst (v := nI 1) hx hb dX5_water_13 (by decide) ?_
        refine goIw (va_runV (As := [.int (nI i), .int (nI 1)]) (rest := [.int (smD (fun p => m_z M (8 + 5 * p + 1)) i)]) ⟨hx, hb, hml, hown, hts⟩ (CtI.use (c_X5_of l G ca h a M i 1 (by omega) (by omega)) H.size) (cwV 2 hts gX5_water_X5_of rfl rfl rfl (by decide +kernel) ⟨Nat.le_of_ble_eq_true rfl, Nat.le_of_ble_eq_true rfl⟩) (pcW_V hev hP hD (q0 := 0) rfl rfl rfl) rfl rfl hl.1 rfl (lv_room (Nat.le_of_ble_eq_true rfl)) dX5_water_14 ⟨Nat.zero_le _, Nat.zero_le _⟩) hD hS hA moF (fun H locs hP hD hS => ?_)
        refine lv_eqi (y := (m_z M) (8 + 5 * i + 1)) rfl ?_
        refine lv_iadd hx hb dX5_water_17 ?_
        refine lv_istore_n (lv' := [(1, .int ((smD (fun p => m_z M (8 + 5 * p + 1)) i) + ((m_z M) (8 + 5 * i + 1)))), (0, .ref h), (2, .int (nI i))]) hx hb dX5_water_18 rfl hl (by decide) rfl (fun ls hl => ?_)
        refine lv_iinc (v := nI (i + 1)) (lv' := [(2, .int (nI (i + 1))), (1, .int ((smD (fun p => m_z M (8 + 5 * p + 1)) i) + ((m_z M) (8 + 5 * i + 1)))), (0, .ref h)]) hx hb dX5_water_19 hl (k := 2) rfl (nI_1 _) (by decide) rfl (fun ls hl => ?_)
        refine lv_goto (tgt := 4) hx hb dX5_water_22 (by decide) ?_
        exact ih (i + 1) (by omega) _ _ _ hP (D_of hD moF) hS (lv_sub hl [2, 1, 0] rfl)
  exact loop_4 12 0 (by omega) _ _ _ hP (D_of hD moF) hS (lv_sub hl [2, 1, 0] rfl)
set_option maxHeartbeats 4000000 in
set_option maxRecDepth 100000 in
theorem c_X5_reason (l : Launch) (G : va_G) (ca : Nat → ClassId) (h : Nat) (a : Nat → Nat) (M : MM) (w : Nat) (p : Nat) (x : Int32) (hw : w < 6) (hp : p < 12) : CtI l yX5_reason wsX5_reason ({ frames := 2, cells := 0, slots := 0, locals := 43 }) [.ref h, .int (nI w), .int (nI p), .int x] G ca (moT ca h a M) (moT ca h a M) (zRs (m_z M) w p x) := by
  refine CtI.ofW (cc := cX5_reason) (maxL := 5) (rt := .int) (by decide) rfl (Nat.le_of_ble_eq_true rfl) rfl ?_
  intro pr en s m be me c A ls Q H hx hb hml hts hown hev hP hD hA hS hl hret
  have hown : s.vm.findClass RX5 = some m.cls := hown
  have hl : lv_has ls 5 [(0, .ref h), (1, .int (nI w)), (2, .int (nI p)), (3, .int x)] := hl
  have in_wsX50 : ∀ w ∈ wsX50, w ∈ wsX5_reason := fun _ h => List.mem_cons_of_mem _ (List.mem_append_right _ h)
  refine lv_aload_n hx hb dX5_reason_0 rfl (lv_at hl 0 rfl) ?_
  refine lv_iload_n hx hb dX5_reason_1 rfl (lv_at hl 2 rfl) ?_
  refine goIw (va_runV (As := [.int (nI p)]) (rest := []) ⟨hx, hb, hml, hown, hts⟩ (CtI.use (c_X5_hasDucks l G ca h a M p (by omega)) H.size) (cwV 1 hts gX5_reason_X5_hasDucks rfl rfl rfl (by decide +kernel) ⟨Nat.le_of_ble_eq_true rfl, Nat.le_of_ble_eq_true rfl⟩) (pcW_V hev hP hD (q0 := 0) rfl rfl rfl) rfl rfl hl.1 rfl (lv_room (Nat.le_of_ble_eq_true rfl)) dX5_reason_2 ⟨Nat.zero_le _, Nat.zero_le _⟩) hD hS hA moF (fun H locs hP hD hS => ?_)
  refine lv_if_eq (tgt := 10) hx hb dX5_reason_5 (by decide) (fun c_1 => ?_) (fun c_1 => ?_)
  · skip
    refine lv_aload_n hx hb dX5_reason_10 rfl (lv_at hl 0 rfl) ?_
    refine lv_iload_n hx hb dX5_reason_11 rfl (lv_at hl 1 rfl) ?_
    refine lv_iload_n hx hb dX5_reason_12 rfl (lv_at hl 2 rfl) ?_
    refine goIw (va_runV (As := [.int (nI w), .int (nI p)]) (rest := []) ⟨hx, hb, hml, hown, hts⟩ (CtI.use (c_X5_days l G ca h a M w p (by omega) (by omega)) H.size) (cwV 2 hts gX5_reason_X5_days rfl rfl rfl (by decide +kernel) ⟨Nat.le_of_ble_eq_true rfl, Nat.le_of_ble_eq_true rfl⟩) (pcW_V hev hP hD (q0 := 0) rfl rfl rfl) rfl rfl hl.1 rfl (lv_room (Nat.le_of_ble_eq_true rfl)) dX5_reason_13 ⟨Nat.zero_le _, Nat.zero_le _⟩) hD hS hA moF (fun H locs hP hD hS => ?_)
    refine lv_eqi (y := (m_z M) (92 + 12 * w + p)) rfl ?_
    refine lv_if_le (tgt := 21) hx hb dX5_reason_16 (by decide) (fun c_2 => ?_) (fun c_2 => ?_)
    · skip
      refine lv_iconst (v := 2) hx hb dX5_reason_21 (by decide) ?_
      refine lv_iload_n hx hb dX5_reason_22 rfl (lv_at hl 3 rfl) ?_
      refine lv_imul hx hb dX5_reason_23 ?_
      refine lv_iconst (v := 1) hx hb dX5_reason_24 (by decide) ?_
      refine lv_iadd hx hb dX5_reason_25 ?_
      refine lv_istore (lv' := [(4, .int ((2 * x) + 1)), (0, .ref h), (1, .int (nI w)), (2, .int (nI p)), (3, .int x)]) hx hb dX5_reason_26 hl (by decide) rfl (fun ls hl => ?_)
      refine lv_aload_n hx hb dX5_reason_28 rfl (lv_at hl 1 rfl) ?_
      refine lv_iload_n hx hb dX5_reason_29 rfl (lv_at hl 3 rfl) ?_
      refine goIw (va_runV (As := [.int (nI p)]) (rest := []) ⟨hx, hb, hml, hown, hts⟩ (CtI.use (c_X5_isFrozen l G ca h a M p (by omega)) H.size) (cwV 1 hts gX5_reason_X5_isFrozen rfl rfl rfl (by decide +kernel) ⟨Nat.le_of_ble_eq_true rfl, Nat.le_of_ble_eq_true rfl⟩) (pcW_V hev hP hD (q0 := 0) rfl rfl rfl) rfl rfl hl.1 rfl (lv_room (Nat.le_of_ble_eq_true rfl)) dX5_reason_30 ⟨Nat.zero_le _, Nat.zero_le _⟩) hD hS hA moF (fun H locs hP hD hS => ?_)
      refine lv_if_eq (tgt := 52) hx hb dX5_reason_33 (by decide) (fun c_3 => ?_) (fun c_3 => ?_)
      · skip
        refine lv_aload_n hx hb dX5_reason_52 rfl (lv_at hl 1 rfl) ?_
        refine lv_iload_n hx hb dX5_reason_53 rfl (lv_at hl 3 rfl) ?_
        refine goIw (va_runV (As := [.int (nI p)]) (rest := []) ⟨hx, hb, hml, hown, hts⟩ (CtI.use (c_X5_depth l G ca h a M p (by omega)) H.size) (cwV 1 hts gX5_reason_X5_depth rfl rfl rfl (by decide +kernel) ⟨Nat.le_of_ble_eq_true rfl, Nat.le_of_ble_eq_true rfl⟩) (pcW_V hev hP hD (q0 := 0) rfl rfl rfl) rfl rfl hl.1 rfl (lv_room (Nat.le_of_ble_eq_true rfl)) dX5_reason_54 ⟨Nat.zero_le _, Nat.zero_le _⟩) hD hS hA moF (fun H locs hP hD hS => ?_)
        refine lv_eqi (y := (m_z M) (8 + 5 * p + 1) / 5) rfl ?_
        refine lv_iload hx hb dX5_reason_57 (lv_at hl 0 rfl) ?_
        refine lv_icmp_le (tgt := 66) hx hb dX5_reason_59 (by decide) (fun c_4 => ?_) (fun c_4 => ?_)
        · skip
          refine lv_iconst (v := 0) hx hb dX5_reason_66 (by decide) ?_
          refine lv_eqi (y := zRs (m_z M) w p x) (by rw [zRs, if_pos c_1, if_pos c_2, if_pos c_3, if_pos c_4]) ?_
          exact hret _ _ _ _ hP hS dX5_reason_67
        · skip
          refine lv_iconst (v := 2) hx hb dX5_reason_62 (by decide) ?_
          refine lv_goto (tgt := 67) hx hb dX5_reason_63 (by decide) ?_
          refine lv_eqi (y := zRs (m_z M) w p x) (by rw [zRs, if_pos c_1, if_pos c_2, if_pos c_3, if_neg c_4]) ?_
          exact hret _ _ _ _ hP hS dX5_reason_67
      · skip
        refine lv_aload_n hx hb dX5_reason_36 rfl (lv_at hl 1 rfl) ?_
        refine lv_iload_n hx hb dX5_reason_37 rfl (lv_at hl 3 rfl) ?_
        refine goIw (va_runV (As := [.int (nI p)]) (rest := []) ⟨hx, hb, hml, hown, hts⟩ (CtI.use (c_X5_depth l G ca h a M p (by omega)) H.size) (cwV 1 hts gX5_reason_X5_depth rfl rfl rfl (by decide +kernel) ⟨Nat.le_of_ble_eq_true rfl, Nat.le_of_ble_eq_true rfl⟩) (pcW_V hev hP hD (q0 := 0) rfl rfl rfl) rfl rfl hl.1 rfl (lv_room (Nat.le_of_ble_eq_true rfl)) dX5_reason_38 ⟨Nat.zero_le _, Nat.zero_le _⟩) hD hS hA moF (fun H locs hP hD hS => ?_)
        refine lv_eqi (y := (m_z M) (8 + 5 * p + 1) / 5) rfl ?_
        refine lv_if_le (tgt := 48) hx hb dX5_reason_41 (by decide) (fun c_5 => ?_) (fun c_5 => ?_)
        · skip
          refine lv_iconst (v := 0) hx hb dX5_reason_48 (by decide) ?_
          refine lv_goto (tgt := 67) hx hb dX5_reason_49 (by decide) ?_
          refine lv_eqi (y := zRs (m_z M) w p x) (by rw [zRs, if_pos c_1, if_pos c_2, if_neg c_3, if_pos c_5]) ?_
          exact hret _ _ _ _ hP hS dX5_reason_67
        · skip
          refine lv_iconst (v := 3) hx hb dX5_reason_44 (by decide) ?_
          refine lv_goto (tgt := 67) hx hb dX5_reason_45 (by decide) ?_
          refine lv_eqi (y := zRs (m_z M) w p x) (by rw [zRs, if_pos c_1, if_pos c_2, if_neg c_3, if_neg c_5]) ?_
          exact hret _ _ _ _ hP hS dX5_reason_67
    · skip
      refine lv_iconst (v := 0) hx hb dX5_reason_19 (by decide) ?_
      refine lv_eqi (y := zRs (m_z M) w p x) (by rw [zRs, if_pos c_1, if_neg c_2]) ?_
      exact hret _ _ _ _ hP hS dX5_reason_20
  · skip
    refine lv_iconst (v := 1) hx hb dX5_reason_8 (by decide) ?_
    refine lv_eqi (y := zRs (m_z M) w p x) (by rw [zRs, if_neg c_1]) ?_
    exact hret _ _ _ _ hP hS dX5_reason_9
set_option maxHeartbeats 4000000 in
set_option maxRecDepth 100000 in
theorem c_X5_reasonNow (l : Launch) (G : va_G) (ca : Nat → ClassId) (h : Nat) (a : Nat → Nat) (M : MM) (w : Nat) (p : Nat) (hw : w < 6) (hp : p < 12) : CtI l yX5_reasonNow wsX5_reasonNow ({ frames := 3, cells := 0, slots := 0, locals := 67 }) [.ref h, .int (nI w), .int (nI p)] G ca (moT ca h a M) (moT ca h a M) (zRn (m_z M) w p) := by
  refine CtI.ofW (cc := cX5_reasonNow) (maxL := 3) (rt := .int) (by decide) rfl (Nat.le_of_ble_eq_true rfl) rfl ?_
  intro pr en s m be me c A ls Q H hx hb hml hts hown hev hP hD hA hS hl hret
  have hown : s.vm.findClass RX5 = some m.cls := hown
  have hl : lv_has ls 3 [(0, .ref h), (1, .int (nI w)), (2, .int (nI p))] := hl
  have in_wsX50 : ∀ w ∈ wsX50, w ∈ wsX5_reasonNow := fun _ h => List.mem_cons_of_mem _ (List.mem_append_right _ h)
  refine lv_aload_n hx hb dX5_reasonNow_0 rfl (lv_at hl 0 rfl) ?_
  refine lv_iload_n hx hb dX5_reasonNow_1 rfl (lv_at hl 1 rfl) ?_
  refine lv_iload_n hx hb dX5_reasonNow_2 rfl (lv_at hl 2 rfl) ?_
  refine lv_aload_n hx hb dX5_reasonNow_3 rfl (lv_at hl 0 rfl) ?_
  refine lv_iload_n hx hb dX5_reasonNow_4 rfl (lv_at hl 1 rfl) ?_
  refine lv_iconst (v := nI 0) hx hb dX5_reasonNow_5 (by decide) ?_
  refine goIw (va_runV (As := [.int (nI w), .int (nI 0)]) (rest := [.int (nI p), .int (nI w), .ref h]) ⟨hx, hb, hml, hown, hts⟩ (CtI.use (c_X5_ofWalker l G ca h a M w 0 (by omega) (by omega)) H.size) (cwV 2 hts gX5_reasonNow_X5_ofWalker rfl rfl rfl (by decide +kernel) ⟨Nat.le_of_ble_eq_true rfl, Nat.le_of_ble_eq_true rfl⟩) (pcW_V hev hP hD (q0 := 0) rfl rfl rfl) rfl rfl hl.1 rfl (lv_room (Nat.le_of_ble_eq_true rfl)) dX5_reasonNow_6 ⟨Nat.zero_le _, Nat.zero_le _⟩) hD hS hA moF (fun H locs hP hD hS => ?_)
  refine lv_eqi (y := (m_z M) (68 + 4 * w + 0)) rfl ?_
  refine goIw (va_runV (As := [.int (nI w), .int (nI p), .int ((m_z M) (68 + 4 * w + 0))]) (rest := []) ⟨hx, hb, hml, hown, hts⟩ (CtI.use (c_X5_reason l G ca h a M w p ((m_z M) (68 + 4 * w + 0)) (by omega) (by omega)) H.size) (cwV 3 hts gX5_reasonNow_X5_reason rfl rfl rfl (by decide +kernel) ⟨Nat.le_of_ble_eq_true rfl, Nat.le_of_ble_eq_true rfl⟩) (pcW_V hev hP hD (q0 := 0) rfl rfl rfl) rfl rfl hl.1 rfl (lv_room (Nat.le_of_ble_eq_true rfl)) dX5_reasonNow_9 ⟨Nat.zero_le _, Nat.zero_le _⟩) hD hS hA moF (fun H locs hP hD hS => ?_)
  refine lv_eqi (y := zRn (m_z M) w p) rfl ?_
  exact hret _ _ _ _ hP hS dX5_reasonNow_12
set_option maxHeartbeats 4000000 in
set_option maxRecDepth 100000 in
theorem c_X5_duty (l : Launch) (G : va_G) (ca : Nat → ClassId) (h : Nat) (a : Nat → Nat) (M : MM) (p : Nat) (hp : p < 12) : CtI l yX5_duty wsX5_duty ({ frames := 2, cells := 0, slots := 0, locals := 43 }) [.ref h, .int (nI p)] G ca (moT ca h a M) (moT ca h a M) (zDu (m_z M) p) := by
  refine CtI.ofW (cc := cX5_duty) (maxL := 2) (rt := .int) (by decide) rfl (Nat.le_of_ble_eq_true rfl) rfl ?_
  intro pr en s m be me c A ls Q H hx hb hml hts hown hev hP hD hA hS hl hret
  have hown : s.vm.findClass RX5 = some m.cls := hown
  have hl : lv_has ls 2 [(0, .ref h), (1, .int (nI p))] := hl
  have in_wsX50 : ∀ w ∈ wsX50, w ∈ wsX5_duty := fun _ h => List.mem_cons_of_mem _ (List.mem_append_right _ h)
  refine lv_aload_n hx hb dX5_duty_0 rfl (lv_at hl 0 rfl) ?_
  refine lv_iload_n hx hb dX5_duty_1 rfl (lv_at hl 1 rfl) ?_
  refine goIw (va_runV (As := [.int (nI p)]) (rest := []) ⟨hx, hb, hml, hown, hts⟩ (CtI.use (c_X5_isFrozen l G ca h a M p (by omega)) H.size) (cwV 1 hts gX5_duty_X5_isFrozen rfl rfl rfl (by decide +kernel) ⟨Nat.le_of_ble_eq_true rfl, Nat.le_of_ble_eq_true rfl⟩) (pcW_V hev hP hD (q0 := 0) rfl rfl rfl) rfl rfl hl.1 rfl (lv_room (Nat.le_of_ble_eq_true rfl)) dX5_duty_2 ⟨Nat.zero_le _, Nat.zero_le _⟩) hD hS hA moF (fun H locs hP hD hS => ?_)
  refine lv_if_eq (tgt := 12) hx hb dX5_duty_5 (by decide) (fun c_1 => ?_) (fun c_1 => ?_)
  · skip
    refine lv_aload_n hx hb dX5_duty_12 rfl (lv_at hl 0 rfl) ?_
    refine va_get (D := G) (ci := 5) (v := .ref (a 0)) (C := RX5) (T := TX5) (N := 10) hx hb hts in_wsX50 hown hev.1 hP 0 rfl rfl 0 (by decide) (hts (.fieldLink RX5 7 "PuddleMinistriesModel" "z" "[I") (List.mem_of_getElem? (i := 1) rfl)) (fun _ h9 => h9) rfl dX5_duty_13 ?_
    refine lv_iconst (v := nI 0) hx hb dX5_duty_16 (by decide) ?_
    refine b_iald hx hb hev.1 hP 1 rfl rfl (j := 0) (by omega) (by decide) dX5_duty_17 ?_
    refine lv_aload_n hx hb dX5_duty_18 rfl (lv_at hl 0 rfl) ?_
    refine lv_iload_n hx hb dX5_duty_19 rfl (lv_at hl 1 rfl) ?_
    refine goIw (va_runV (As := [.int (nI p)]) (rest := [.int ((m_z M) 0)]) ⟨hx, hb, hml, hown, hts⟩ (CtI.use (c_X5_depth l G ca h a M p (by omega)) H.size) (cwV 1 hts gX5_duty_X5_depth rfl rfl rfl (by decide +kernel) ⟨Nat.le_of_ble_eq_true rfl, Nat.le_of_ble_eq_true rfl⟩) (pcW_V hev hP hD (q0 := 0) rfl rfl rfl) rfl rfl hl.1 rfl (lv_room (Nat.le_of_ble_eq_true rfl)) dX5_duty_20 ⟨Nat.zero_le _, Nat.zero_le _⟩) hD hS hA moF (fun H locs hP hD hS => ?_)
    refine lv_eqi (y := (m_z M) (8 + 5 * p + 1) / 5) rfl ?_
    refine lv_imul hx hb dX5_duty_23 ?_
    refine lv_eqi (y := zDu (m_z M) p) (by rw [zDu, if_pos c_1]) ?_
    exact hret _ _ _ _ hP hS dX5_duty_24
  · skip
    refine lv_iconst (v := 0) hx hb dX5_duty_8 (by decide) ?_
    refine lv_goto (tgt := 24) hx hb dX5_duty_9 (by decide) ?_
    refine lv_eqi (y := zDu (m_z M) p) (by rw [zDu, if_neg c_1]) ?_
    exact hret _ _ _ _ hP hS dX5_duty_24
set_option maxHeartbeats 4000000 in
set_option maxRecDepth 100000 in
theorem c_X5_may (l : Launch) (G : va_G) (ca : Nat → ClassId) (h : Nat) (a : Nat → Nat) (M : MM) (w : Nat) (x : Int32) (hw : w < 6) : CtI l yX5_may wsX5_may ({ frames := 3, cells := 0, slots := 0, locals := 67 }) [.ref h, .int (nI w), .int x] G ca (moT ca h a M) (moT ca h a M) (orD (zMg (m_z M) w x) 12) := by
  refine CtI.ofW (cc := cX5_may) (maxL := 5) (rt := .int) (by decide) rfl (Nat.le_of_ble_eq_true rfl) rfl ?_
  intro pr en s m be me c A ls Q H hx hb hml hts hown hev hP hD hA hS hl hret
  have hown : s.vm.findClass RX5 = some m.cls := hown
  have hl : lv_has ls 5 [(0, .ref h), (1, .int (nI w)), (2, .int x)] := hl
  have in_wsX50 : ∀ w ∈ wsX50, w ∈ wsX5_may := fun _ h => List.mem_cons_of_mem _ (List.mem_append_right _ h)
  refine lv_iconst (v := 0) hx hb dX5_may_0 (by decide) ?_
  refine lv_istore_n (lv' := [(3, .int 0), (0, .ref h), (1, .int (nI w)), (2, .int x)]) hx hb dX5_may_1 rfl hl (by decide) rfl (fun ls hl => ?_)
  refine lv_iconst (v := nI 0) hx hb dX5_may_2 (by decide) ?_
  refine lv_istore (lv' := [(4, .int (nI 0)), (3, .int 0), (0, .ref h), (1, .int (nI w)), (2, .int x)]) hx hb dX5_may_3 hl (by decide) rfl (fun ls hl => ?_)
  have loop_5 : ∀ (n i : Nat), i + n = 12 → ∀ (H : Heap) (locs : List Loc) (ls : Array Slot), va_P G vwCl (moT ca h a M) H → va_D A (moT ca h a M) → va_S A s.heap H locs → lv_has ls 5 [(0, .ref h), (1, .int (nI w)), (2, .int x), (3, .int (orD (zMg (m_z M) w x) i)), (4, .int (nI i))] → W pr l en ({ frames := 3, cells := 0, slots := 0, locals := 67 } : Room) s m ([.ref h, .int (nI w), .int x] : List Value).toArray be me c H locs 0 0 Q (F0 m 5 ls []) := by
    intro n
    induction n with
    | zero =>
      intro i hi H locs ls hP hD hS hl
      obtain rfl : i = 12 := by omega
      refine lv_iload hx hb dX5_may_5 (lv_at hl 4 rfl) ?_
      refine lv_bipush (v := nI 12) hx hb dX5_may_7 (by decide) ?_
      refine lv_icmp_ge (tgt := 40) hx hb dX5_may_9 (by decide) (fun c_1 => ?_) (fun c_1 => ?_)
      · skip
        refine lv_iload_n hx hb dX5_may_40 rfl (lv_at hl 3 rfl) ?_
        exact hret _ _ _ _ hP hS dX5_may_41
      · skip
        exact absurd (nI_le (by omega) (by omega)) c_1
    | succ n ih =>
      intro i hi H locs ls hP hD hS hl
      have hlt : i < 12 := by omega
      refine lv_iload hx hb dX5_may_5 (lv_at hl 4 rfl) ?_
      refine lv_bipush (v := nI 12) hx hb dX5_may_7 (by decide) ?_
      refine lv_icmp_ge (tgt := 40) hx hb dX5_may_9 (by decide) (fun c_2 => ?_) (fun c_2 => ?_)
      · skip
        exact absurd c_2 (nI_ge (by omega) (by omega))
      · skip
        refine lv_iload_n hx hb dX5_may_12 rfl (lv_at hl 3 rfl) ?_
        refine lv_aload_n hx hb dX5_may_13 rfl (lv_at hl 0 rfl) ?_
        refine lv_iload_n hx hb dX5_may_14 rfl (lv_at hl 1 rfl) ?_
        refine lv_iload hx hb dX5_may_15 (lv_at hl 4 rfl) ?_
        refine lv_iload_n hx hb dX5_may_17 rfl (lv_at hl 2 rfl) ?_
        refine goIw (va_runV (As := [.int (nI w), .int (nI i), .int x]) (rest := [.int (orD (zMg (m_z M) w x) i)]) ⟨hx, hb, hml, hown, hts⟩ (CtI.use (c_X5_reason l G ca h a M w i x (by omega) (by omega)) H.size) (cwV 3 hts gX5_may_X5_reason rfl rfl rfl (by decide +kernel) ⟨Nat.le_of_ble_eq_true rfl, Nat.le_of_ble_eq_true rfl⟩) (pcW_V hev hP hD (q0 := 0) rfl rfl rfl) rfl rfl hl.1 rfl (lv_room (Nat.le_of_ble_eq_true rfl)) dX5_may_18 ⟨Nat.zero_le _, Nat.zero_le _⟩) hD hS hA moF (fun H locs hP hD hS => ?_)
        refine lv_if_ne (tgt := 31) hx hb dX5_may_21 (by decide) (fun c_3 => ?_) (fun c_3 => ?_)
        · skip
          refine lv_iconst (v := 0) hx hb dX5_may_31 (by decide) ?_
          refine lv_ior hx hb dX5_may_32 ?_
          refine lv_istore_n (lv' := [(3, .int ((orD (zMg (m_z M) w x) i) ||| 0)), (0, .ref h), (1, .int (nI w)), (2, .int x), (4, .int (nI i))]) hx hb dX5_may_33 rfl hl (by decide) rfl (fun ls hl => ?_)
          refine lv_iinc (v := nI (i + 1)) (lv' := [(4, .int (nI (i + 1))), (3, .int ((orD (zMg (m_z M) w x) i) ||| 0)), (0, .ref h), (1, .int (nI w)), (2, .int x)]) hx hb dX5_may_34 hl (k := 4) rfl (nI_1 _) (by decide) rfl (fun ls hl => ?_)
          refine lv_goto (tgt := 5) hx hb dX5_may_37 (by decide) ?_
          exact ih (i + 1) (by omega) _ _ _ hP (D_of hD moF) hS (by rw [show (orD (zMg (m_z M) w x) (i + 1)) = ((orD (zMg (m_z M) w x) i) ||| 0) from by rw [orD_s, zMg, if_neg c_3]]; exact lv_sub hl [2, 3, 4, 1, 0] rfl)
        · skip
          refine lv_iconst (v := 1) hx hb dX5_may_24 (by decide) ?_
          refine lv_iload hx hb dX5_may_25 (lv_at hl 4 rfl) ?_
          refine lv_ishl hx hb dX5_may_27 ?_
          refine lv_goto (tgt := 32) hx hb dX5_may_28 (by decide) ?_
          refine lv_ior hx hb dX5_may_32 ?_
          refine lv_istore_n (lv' := [(3, .int ((orD (zMg (m_z M) w x) i) ||| (1 <<< ((nI i) &&& 31)))), (0, .ref h), (1, .int (nI w)), (2, .int x), (4, .int (nI i))]) hx hb dX5_may_33 rfl hl (by decide) rfl (fun ls hl => ?_)
          refine lv_iinc (v := nI (i + 1)) (lv' := [(4, .int (nI (i + 1))), (3, .int ((orD (zMg (m_z M) w x) i) ||| (1 <<< ((nI i) &&& 31)))), (0, .ref h), (1, .int (nI w)), (2, .int x)]) hx hb dX5_may_34 hl (k := 4) rfl (nI_1 _) (by decide) rfl (fun ls hl => ?_)
          refine lv_goto (tgt := 5) hx hb dX5_may_37 (by decide) ?_
          exact ih (i + 1) (by omega) _ _ _ hP (D_of hD moF) hS (by rw [show (orD (zMg (m_z M) w x) (i + 1)) = ((orD (zMg (m_z M) w x) i) ||| (1 <<< ((nI i) &&& 31))) from by rw [orD_s, zMg, if_pos c_3]]; exact lv_sub hl [2, 3, 4, 1, 0] rfl)
  exact loop_5 12 0 (by omega) _ _ _ hP (D_of hD moF) hS (lv_sub hl [2, 3, 4, 1, 0] rfl)
def stq (g : Nat → Int32) : Nat → Nat → Nat | 0, i => i | n + 1, i => if g i = 0 then stq g n (i + 1) else i
theorem stq_s (g : Nat → Int32) (n i : Nat) : stq g (n + 1) i = if g i = 0 then stq g n (i + 1) else i := rfl
theorem stq_le (g : Nat → Int32) (n : Nat) : ∀ i, stq g n i ≤ i + n := by
  induction n with
  | zero => intro i; exact Nat.le_refl _
  | succ n ih =>
    intro i
    rw [stq_s]
    split
    · have := ih (i + 1); omega
    · omega
def zAl (z : Nat → Int32) (w f t : Nat) : Nat := stq (fun k => zRn z w (plc k f t)) (t - f + (f - t) + 1) 0
theorem zAl_le (z : Nat → Int32) (w f t : Nat) : zAl z w f t ≤ t - f + (f - t) + 1 := by
  have := stq_le (fun k => zRn z w (plc k f t)) (t - f + (f - t) + 1) 0
  unfold zAl; omega
theorem many_t : ∀ t, t < 12 → ∀ f, f < 12 → ¬ t < f → (nI t - nI f) * 1 + 1 = nI (t - f + (f - t) + 1) := by decide +kernel
theorem many_f : ∀ t, t < 12 → ∀ f, f < 12 → t < f → (nI t - nI f) * (-1) + 1 = nI (t - f + (f - t) + 1) := by decide +kernel
theorem plcI_t {k f t : Nat} (h : ¬ t < f) : nI f + nI k * 1 = nI (plc k f t) := by
  rw [Int32.mul_one, nI_add, plc, if_pos (by omega)]
theorem plcI_f {k f t : Nat} (h : t < f) (hk : k ≤ t - f + (f - t)) : nI f + nI k * (-1) = nI (plc k f t) := by
  rw [plc, if_neg (by omega), ← pk_sub (by omega), Int32.mul_neg, Int32.mul_one, ← Int32.sub_eq_add_neg]
set_option maxHeartbeats 4000000 in
set_option maxRecDepth 100000 in
theorem c_X5_allowed (l : Launch) (G : va_G) (ca : Nat → ClassId) (h : Nat) (a : Nat → Nat) (M : MM) (w : Nat) (f : Nat) (t : Nat) (hw : w < 6) (hf : f < 12) (ht : t < 12) : CtI l yX5_allowed wsX5_allowed ({ frames := 4, cells := 0, slots := 0, locals := 89 }) [.ref h, .int (nI w), .int (nI f), .int (nI t)] G ca (moT ca h a M) (moT ca h a M) (nI (zAl (m_z M) w f t)) := by
  refine CtI.ofW (cc := cX5_allowed) (maxL := 7) (rt := .int) (by decide) rfl (Nat.le_of_ble_eq_true rfl) rfl ?_
  intro pr en s m be me c A ls Q H hx hb hml hts hown hev hP hD hA hS hl hret
  have hown : s.vm.findClass RX5 = some m.cls := hown
  have hl : lv_has ls 7 [(0, .ref h), (1, .int (nI w)), (2, .int (nI f)), (3, .int (nI t))] := hl
  have in_wsX50 : ∀ w ∈ wsX50, w ∈ wsX5_allowed := fun _ h => List.mem_cons_of_mem _ (List.mem_append_right _ h)
  refine lv_iload_n hx hb dX5_allowed_0 rfl (lv_at hl 2 rfl) ?_
  refine lv_iload_n hx hb dX5_allowed_1 rfl (lv_at hl 3 rfl) ?_
  refine lv_icmp_gt (tgt := 9) hx hb dX5_allowed_2 (by decide) (fun c_1 => ?_) (fun c_1 => ?_)
  · skip
    have nc_1 : t < f := (nI_ltI (a := t) (b := f) (by omega) (by omega)).mp c_1
    refine lv_iconst (v := (-1)) hx hb dX5_allowed_9 (by decide) ?_
    refine lv_istore (lv' := [(4, .int (-1)), (0, .ref h), (1, .int (nI w)), (2, .int (nI f)), (3, .int (nI t))]) hx hb dX5_allowed_10 hl (by decide) rfl (fun ls hl => ?_)
    refine lv_iload_n hx hb dX5_allowed_12 rfl (lv_at hl 4 rfl) ?_
    refine lv_iload_n hx hb dX5_allowed_13 rfl (lv_at hl 3 rfl) ?_
    refine lv_isub hx hb dX5_allowed_14 ?_
    refine lv_iload hx hb dX5_allowed_15 (lv_at hl 0 rfl) ?_
    refine lv_imul hx hb dX5_allowed_17 ?_
    refine lv_iconst (v := 1) hx hb dX5_allowed_18 (by decide) ?_
    refine lv_iadd hx hb dX5_allowed_19 ?_
    refine lv_eqi (y := nI (t - f + (f - t) + 1)) (by first | exact many_t t ht f hf (by assumption) | exact many_f t ht f hf (by assumption)) ?_
    refine lv_istore (lv' := [(5, .int (nI (t - f + (f - t) + 1))), (4, .int (-1)), (0, .ref h), (1, .int (nI w)), (2, .int (nI f)), (3, .int (nI t))]) hx hb dX5_allowed_20 hl (by decide) rfl (fun ls hl => ?_)
    refine lv_iconst (v := nI 0) hx hb dX5_allowed_22 (by decide) ?_
    refine lv_istore (lv' := [(6, .int (nI 0)), (5, .int (nI (t - f + (f - t) + 1))), (4, .int (-1)), (0, .ref h), (1, .int (nI w)), (2, .int (nI f)), (3, .int (nI t))]) hx hb dX5_allowed_23 hl (by decide) rfl (fun ls hl => ?_)
    have loop_25 : ∀ (n i : Nat), i + n = t - f + (f - t) + 1 → stq (fun k => zRn (m_z M) w (plc k f t)) n i = zAl (m_z M) w f t → ∀ (H : Heap) (locs : List Loc) (ls : Array Slot), va_P G vwCl (moT ca h a M) H → va_D A (moT ca h a M) → va_S A s.heap H locs → lv_has ls 7 [(0, .ref h), (1, .int (nI w)), (2, .int (nI f)), (3, .int (nI t)), (4, .int (-1)), (5, .int (nI (t - f + (f - t) + 1))), (6, .int (nI i))] → W pr l en ({ frames := 4, cells := 0, slots := 0, locals := 89 } : Room) s m ([.ref h, .int (nI w), .int (nI f), .int (nI t)] : List Value).toArray be me c H locs 0 0 Q (F0 m 25 ls []) := by
      intro n
      induction n with
      | zero =>
        intro i hi hr H locs ls hP hD hS hl
        obtain rfl : i = t - f + (f - t) + 1 := by omega
        refine lv_iload hx hb dX5_allowed_25 (lv_at hl 6 rfl) ?_
        refine lv_iload hx hb dX5_allowed_27 (lv_at hl 5 rfl) ?_
        refine lv_icmp_ge (tgt := 53) hx hb dX5_allowed_29 (by decide) (fun c_2 => ?_) (fun c_2 => ?_)
        · skip
          refine lv_iload hx hb dX5_allowed_53 (lv_at hl 6 rfl) ?_
          refine lv_eqi (y := nI (zAl (m_z M) w f t)) (by first | (rw [← hr]; rfl) | rw [← hr, stq_s, ]) ?_
          exact hret _ _ _ _ hP hS dX5_allowed_55
        · skip
          exact absurd (nI_le (by omega) (by omega)) c_2
      | succ n ih =>
        intro i hi hr H locs ls hP hD hS hl
        have hlt : i < t - f + (f - t) + 1 := by omega
        refine lv_iload hx hb dX5_allowed_25 (lv_at hl 6 rfl) ?_
        refine lv_iload hx hb dX5_allowed_27 (lv_at hl 5 rfl) ?_
        refine lv_icmp_ge (tgt := 53) hx hb dX5_allowed_29 (by decide) (fun c_3 => ?_) (fun c_3 => ?_)
        · skip
          exact absurd c_3 (nI_ge (by omega) (by omega))
        · skip
          refine lv_aload_n hx hb dX5_allowed_32 rfl (lv_at hl 0 rfl) ?_
          refine lv_iload_n hx hb dX5_allowed_33 rfl (lv_at hl 1 rfl) ?_
          refine lv_iload_n hx hb dX5_allowed_34 rfl (lv_at hl 2 rfl) ?_
          refine lv_iload hx hb dX5_allowed_35 (lv_at hl 6 rfl) ?_
          refine lv_iload hx hb dX5_allowed_37 (lv_at hl 4 rfl) ?_
          refine lv_imul hx hb dX5_allowed_39 ?_
          refine lv_iadd hx hb dX5_allowed_40 ?_
          refine lv_eqi (y := nI (plc i f t)) (by first | exact plcI_t (by assumption) | exact plcI_f (by assumption) (by omega)) ?_
          refine goIw (va_runV (As := [.int (nI w), .int (nI (plc i f t))]) (rest := []) ⟨hx, hb, hml, hown, hts⟩ (CtI.use (c_X5_reasonNow l G ca h a M w (plc i f t) (by omega) (plc_lt _ _ _ (by omega) (by omega) (by omega))) H.size) (cwV 2 hts gX5_allowed_X5_reasonNow rfl rfl rfl (by decide +kernel) ⟨Nat.le_of_ble_eq_true rfl, Nat.le_of_ble_eq_true rfl⟩) (pcW_V hev hP hD (q0 := 0) rfl rfl rfl) rfl rfl hl.1 rfl (lv_room (Nat.le_of_ble_eq_true rfl)) dX5_allowed_41 ⟨Nat.zero_le _, Nat.zero_le _⟩) hD hS hA moF (fun H locs hP hD hS => ?_)
          refine lv_if_ne (tgt := 53) hx hb dX5_allowed_44 (by decide) (fun c_4 => ?_) (fun c_4 => ?_)
          · skip
            refine lv_iload hx hb dX5_allowed_53 (lv_at hl 6 rfl) ?_
            refine lv_eqi (y := nI (zAl (m_z M) w f t)) (by first | (rw [← hr]; rfl) | rw [← hr, stq_s, if_neg c_4]) ?_
            exact hret _ _ _ _ hP hS dX5_allowed_55
          · skip
            refine lv_iinc (v := nI (i + 1)) (lv' := [(6, .int (nI (i + 1))), (0, .ref h), (1, .int (nI w)), (2, .int (nI f)), (3, .int (nI t)), (4, .int (-1)), (5, .int (nI (t - f + (f - t) + 1)))]) hx hb dX5_allowed_47 hl (k := 6) rfl (nI_1 _) (by decide) rfl (fun ls hl => ?_)
            refine lv_goto (tgt := 25) hx hb dX5_allowed_50 (by decide) ?_
            exact ih (i + 1) (by omega) (by rw [← hr, stq_s, if_pos c_4]) _ _ _ hP (D_of hD moF) hS (lv_sub hl [1, 2, 3, 4, 5, 6, 0] rfl)
    exact loop_25 (t - f + (f - t) + 1) 0 (by omega) (by rfl) _ _ _ hP (D_of hD moF) hS (lv_sub hl [3, 4, 5, 6, 2, 1, 0] rfl)
  · skip
    have nc_1 : ¬ t < f := fun q => c_1 ((nI_ltI (a := t) (b := f) (by omega) (by omega)).mpr q)
    refine lv_iconst (v := 1) hx hb dX5_allowed_5 (by decide) ?_
    refine lv_goto (tgt := 10) hx hb dX5_allowed_6 (by decide) ?_
    refine lv_istore (lv' := [(4, .int 1), (0, .ref h), (1, .int (nI w)), (2, .int (nI f)), (3, .int (nI t))]) hx hb dX5_allowed_10 hl (by decide) rfl (fun ls hl => ?_)
    refine lv_iload_n hx hb dX5_allowed_12 rfl (lv_at hl 4 rfl) ?_
    refine lv_iload_n hx hb dX5_allowed_13 rfl (lv_at hl 3 rfl) ?_
    refine lv_isub hx hb dX5_allowed_14 ?_
    refine lv_iload hx hb dX5_allowed_15 (lv_at hl 0 rfl) ?_
    refine lv_imul hx hb dX5_allowed_17 ?_
    refine lv_iconst (v := 1) hx hb dX5_allowed_18 (by decide) ?_
    refine lv_iadd hx hb dX5_allowed_19 ?_
    refine lv_eqi (y := nI (t - f + (f - t) + 1)) (by first | exact many_t t ht f hf (by assumption) | exact many_f t ht f hf (by assumption)) ?_
    refine lv_istore (lv' := [(5, .int (nI (t - f + (f - t) + 1))), (4, .int 1), (0, .ref h), (1, .int (nI w)), (2, .int (nI f)), (3, .int (nI t))]) hx hb dX5_allowed_20 hl (by decide) rfl (fun ls hl => ?_)
    refine lv_iconst (v := nI 0) hx hb dX5_allowed_22 (by decide) ?_
    refine lv_istore (lv' := [(6, .int (nI 0)), (5, .int (nI (t - f + (f - t) + 1))), (4, .int 1), (0, .ref h), (1, .int (nI w)), (2, .int (nI f)), (3, .int (nI t))]) hx hb dX5_allowed_23 hl (by decide) rfl (fun ls hl => ?_)
    have loop_25 : ∀ (n i : Nat), i + n = t - f + (f - t) + 1 → stq (fun k => zRn (m_z M) w (plc k f t)) n i = zAl (m_z M) w f t → ∀ (H : Heap) (locs : List Loc) (ls : Array Slot), va_P G vwCl (moT ca h a M) H → va_D A (moT ca h a M) → va_S A s.heap H locs → lv_has ls 7 [(0, .ref h), (1, .int (nI w)), (2, .int (nI f)), (3, .int (nI t)), (4, .int 1), (5, .int (nI (t - f + (f - t) + 1))), (6, .int (nI i))] → W pr l en ({ frames := 4, cells := 0, slots := 0, locals := 89 } : Room) s m ([.ref h, .int (nI w), .int (nI f), .int (nI t)] : List Value).toArray be me c H locs 0 0 Q (F0 m 25 ls []) := by
      intro n
      induction n with
      | zero =>
        intro i hi hr H locs ls hP hD hS hl
        obtain rfl : i = t - f + (f - t) + 1 := by omega
        refine lv_iload hx hb dX5_allowed_25 (lv_at hl 6 rfl) ?_
        refine lv_iload hx hb dX5_allowed_27 (lv_at hl 5 rfl) ?_
        refine lv_icmp_ge (tgt := 53) hx hb dX5_allowed_29 (by decide) (fun c_5 => ?_) (fun c_5 => ?_)
        · skip
          refine lv_iload hx hb dX5_allowed_53 (lv_at hl 6 rfl) ?_
          refine lv_eqi (y := nI (zAl (m_z M) w f t)) (by first | (rw [← hr]; rfl) | rw [← hr, stq_s, ]) ?_
          exact hret _ _ _ _ hP hS dX5_allowed_55
        · skip
          exact absurd (nI_le (by omega) (by omega)) c_5
      | succ n ih =>
        intro i hi hr H locs ls hP hD hS hl
        have hlt : i < t - f + (f - t) + 1 := by omega
        refine lv_iload hx hb dX5_allowed_25 (lv_at hl 6 rfl) ?_
        refine lv_iload hx hb dX5_allowed_27 (lv_at hl 5 rfl) ?_
        refine lv_icmp_ge (tgt := 53) hx hb dX5_allowed_29 (by decide) (fun c_6 => ?_) (fun c_6 => ?_)
        · skip
          exact absurd c_6 (nI_ge (by omega) (by omega))
        · skip
          refine lv_aload_n hx hb dX5_allowed_32 rfl (lv_at hl 0 rfl) ?_
          refine lv_iload_n hx hb dX5_allowed_33 rfl (lv_at hl 1 rfl) ?_
          refine lv_iload_n hx hb dX5_allowed_34 rfl (lv_at hl 2 rfl) ?_
          refine lv_iload hx hb dX5_allowed_35 (lv_at hl 6 rfl) ?_
          refine lv_iload hx hb dX5_allowed_37 (lv_at hl 4 rfl) ?_
          refine lv_imul hx hb dX5_allowed_39 ?_
          refine lv_iadd hx hb dX5_allowed_40 ?_
          refine lv_eqi (y := nI (plc i f t)) (by first | exact plcI_t (by assumption) | exact plcI_f (by assumption) (by omega)) ?_
          refine goIw (va_runV (As := [.int (nI w), .int (nI (plc i f t))]) (rest := []) ⟨hx, hb, hml, hown, hts⟩ (CtI.use (c_X5_reasonNow l G ca h a M w (plc i f t) (by omega) (plc_lt _ _ _ (by omega) (by omega) (by omega))) H.size) (cwV 2 hts gX5_allowed_X5_reasonNow rfl rfl rfl (by decide +kernel) ⟨Nat.le_of_ble_eq_true rfl, Nat.le_of_ble_eq_true rfl⟩) (pcW_V hev hP hD (q0 := 0) rfl rfl rfl) rfl rfl hl.1 rfl (lv_room (Nat.le_of_ble_eq_true rfl)) dX5_allowed_41 ⟨Nat.zero_le _, Nat.zero_le _⟩) hD hS hA moF (fun H locs hP hD hS => ?_)
          refine lv_if_ne (tgt := 53) hx hb dX5_allowed_44 (by decide) (fun c_7 => ?_) (fun c_7 => ?_)
          · skip
            refine lv_iload hx hb dX5_allowed_53 (lv_at hl 6 rfl) ?_
            refine lv_eqi (y := nI (zAl (m_z M) w f t)) (by first | (rw [← hr]; rfl) | rw [← hr, stq_s, if_neg c_7]) ?_
            exact hret _ _ _ _ hP hS dX5_allowed_55
          · skip
            refine lv_iinc (v := nI (i + 1)) (lv' := [(6, .int (nI (i + 1))), (0, .ref h), (1, .int (nI w)), (2, .int (nI f)), (3, .int (nI t)), (4, .int 1), (5, .int (nI (t - f + (f - t) + 1)))]) hx hb dX5_allowed_47 hl (k := 6) rfl (nI_1 _) (by decide) rfl (fun ls hl => ?_)
            refine lv_goto (tgt := 25) hx hb dX5_allowed_50 (by decide) ?_
            exact ih (i + 1) (by omega) (by rw [← hr, stq_s, if_pos c_7]) _ _ _ hP (D_of hD moF) hS (lv_sub hl [1, 2, 3, 4, 5, 6, 0] rfl)
    exact loop_25 (t - f + (f - t) + 1) 0 (by omega) (by rfl) _ _ _ hP (D_of hD moF) hS (lv_sub hl [3, 4, 5, 6, 2, 1, 0] rfl)
set_option maxHeartbeats 4000000 in
set_option maxRecDepth 100000 in
theorem c_X5_duties (l : Launch) (G : va_G) (ca : Nat → ClassId) (h : Nat) (a : Nat → Nat) (M : MM) (f : Nat) (t : Nat) (m2 : Nat) (hf : f < 12) (ht : t < 12) (hm : m2 ≤ t - f + (f - t) + 1) : CtI l yX5_duties wsX5_duties ({ frames := 3, cells := 0, slots := 0, locals := 64 }) [.ref h, .int (nI f), .int (nI t), .int (nI m2)] G ca (moT ca h a M) (moT ca h a M) (smD (fun k => zDu (m_z M) (plc k f t)) m2) := by
  refine CtI.ofW (cc := cX5_duties) (maxL := 7) (rt := .int) (by decide) rfl (Nat.le_of_ble_eq_true rfl) rfl ?_
  intro pr en s m be me c A ls Q H hx hb hml hts hown hev hP hD hA hS hl hret
  have hown : s.vm.findClass RX5 = some m.cls := hown
  have hl : lv_has ls 7 [(0, .ref h), (1, .int (nI f)), (2, .int (nI t)), (3, .int (nI m2))] := hl
  have in_wsX50 : ∀ w ∈ wsX50, w ∈ wsX5_duties := fun _ h => List.mem_cons_of_mem _ (List.mem_append_right _ h)
  refine lv_iload_n hx hb dX5_duties_0 rfl (lv_at hl 1 rfl) ?_
  refine lv_iload_n hx hb dX5_duties_1 rfl (lv_at hl 2 rfl) ?_
  refine lv_icmp_gt (tgt := 9) hx hb dX5_duties_2 (by decide) (fun c_1 => ?_) (fun c_1 => ?_)
  · skip
    have nc_1 : t < f := (nI_ltI (a := t) (b := f) (by omega) (by omega)).mp c_1
    refine lv_iconst (v := (-1)) hx hb dX5_duties_9 (by decide) ?_
    refine lv_istore (lv' := [(4, .int (-1)), (0, .ref h), (1, .int (nI f)), (2, .int (nI t)), (3, .int (nI m2))]) hx hb dX5_duties_10 hl (by decide) rfl (fun ls hl => ?_)
    refine lv_iconst (v := 0) hx hb dX5_duties_12 (by decide) ?_
    refine lv_istore (lv' := [(5, .int 0), (4, .int (-1)), (0, .ref h), (1, .int (nI f)), (2, .int (nI t)), (3, .int (nI m2))]) hx hb dX5_duties_13 hl (by decide) rfl (fun ls hl => ?_)
    refine lv_iconst (v := nI 0) hx hb dX5_duties_15 (by decide) ?_
    refine lv_istore (lv' := [(6, .int (nI 0)), (5, .int 0), (4, .int (-1)), (0, .ref h), (1, .int (nI f)), (2, .int (nI t)), (3, .int (nI m2))]) hx hb dX5_duties_16 hl (by decide) rfl (fun ls hl => ?_)
    have loop_18 : ∀ (q i : Nat), i + q = m2 → ∀ (H : Heap) (locs : List Loc) (ls : Array Slot), va_P G vwCl (moT ca h a M) H → va_D A (moT ca h a M) → va_S A s.heap H locs → lv_has ls 7 [(0, .ref h), (1, .int (nI f)), (2, .int (nI t)), (3, .int (nI m2)), (4, .int (-1)), (5, .int (smD (fun k => zDu (m_z M) (plc k f t)) i)), (6, .int (nI i))] → W pr l en ({ frames := 3, cells := 0, slots := 0, locals := 64 } : Room) s m ([.ref h, .int (nI f), .int (nI t), .int (nI m2)] : List Value).toArray be me c H locs 0 0 Q (F0 m 18 ls []) := by
      intro q
      induction q with
      | zero =>
        intro i hi H locs ls hP hD hS hl
        obtain rfl : m2 = i := by omega
        refine lv_iload hx hb dX5_duties_18 (lv_at hl 6 rfl) ?_
        refine lv_iload_n hx hb dX5_duties_20 rfl (lv_at hl 3 rfl) ?_
        refine lv_icmp_ge (tgt := 46) hx hb dX5_duties_21 (by decide) (fun c_2 => ?_) (fun c_2 => ?_)
        · skip
          refine lv_iload hx hb dX5_duties_46 (lv_at hl 5 rfl) ?_
          exact hret _ _ _ _ hP hS dX5_duties_48
        · skip
          exact absurd (nI_le (by omega) (by omega)) c_2
      | succ q ih =>
        intro i hi H locs ls hP hD hS hl
        have hlt : i < m2 := by omega
        refine lv_iload hx hb dX5_duties_18 (lv_at hl 6 rfl) ?_
        refine lv_iload_n hx hb dX5_duties_20 rfl (lv_at hl 3 rfl) ?_
        refine lv_icmp_ge (tgt := 46) hx hb dX5_duties_21 (by decide) (fun c_3 => ?_) (fun c_3 => ?_)
        · skip
          exact absurd c_3 (nI_ge (by omega) (by omega))
        · skip
          refine lv_iload hx hb dX5_duties_24 (lv_at hl 5 rfl) ?_
          refine lv_aload_n hx hb dX5_duties_26 rfl (lv_at hl 0 rfl) ?_
          refine lv_iload_n hx hb dX5_duties_27 rfl (lv_at hl 1 rfl) ?_
          refine lv_iload hx hb dX5_duties_28 (lv_at hl 6 rfl) ?_
          refine lv_iload hx hb dX5_duties_30 (lv_at hl 4 rfl) ?_
          refine lv_imul hx hb dX5_duties_32 ?_
          refine lv_iadd hx hb dX5_duties_33 ?_
          refine lv_eqi (y := nI (plc i f t)) (by first | exact plcI_t (by assumption) | exact plcI_f (by assumption) (by omega)) ?_
          refine goIw (va_runV (As := [.int (nI (plc i f t))]) (rest := [.int (smD (fun k => zDu (m_z M) (plc k f t)) i)]) ⟨hx, hb, hml, hown, hts⟩ (CtI.use (c_X5_duty l G ca h a M (plc i f t) (plc_lt _ _ _ (by omega) (by omega) (by omega))) H.size) (cwV 1 hts gX5_duties_X5_duty rfl rfl rfl (by decide +kernel) ⟨Nat.le_of_ble_eq_true rfl, Nat.le_of_ble_eq_true rfl⟩) (pcW_V hev hP hD (q0 := 0) rfl rfl rfl) rfl rfl hl.1 rfl (lv_room (Nat.le_of_ble_eq_true rfl)) dX5_duties_34 ⟨Nat.zero_le _, Nat.zero_le _⟩) hD hS hA moF (fun H locs hP hD hS => ?_)
          refine lv_iadd hx hb dX5_duties_37 ?_
          refine lv_istore (lv' := [(5, .int ((smD (fun k => zDu (m_z M) (plc k f t)) i) + (zDu (m_z M) (plc i f t)))), (0, .ref h), (1, .int (nI f)), (2, .int (nI t)), (3, .int (nI m2)), (4, .int (-1)), (6, .int (nI i))]) hx hb dX5_duties_38 hl (by decide) rfl (fun ls hl => ?_)
          refine lv_iinc (v := nI (i + 1)) (lv' := [(6, .int (nI (i + 1))), (5, .int ((smD (fun k => zDu (m_z M) (plc k f t)) i) + (zDu (m_z M) (plc i f t)))), (0, .ref h), (1, .int (nI f)), (2, .int (nI t)), (3, .int (nI m2)), (4, .int (-1))]) hx hb dX5_duties_40 hl (k := 6) rfl (nI_1 _) (by decide) rfl (fun ls hl => ?_)
          refine lv_goto (tgt := 18) hx hb dX5_duties_43 (by decide) ?_
          exact ih (i + 1) (by omega) _ _ _ hP (D_of hD moF) hS (lv_sub hl [2, 3, 4, 5, 6, 1, 0] rfl)
    exact loop_18 m2 0 (by omega) _ _ _ hP (D_of hD moF) hS (lv_sub hl [3, 4, 5, 6, 2, 1, 0] rfl)
  · skip
    have nc_1 : ¬ t < f := fun q => c_1 ((nI_ltI (a := t) (b := f) (by omega) (by omega)).mpr q)
    refine lv_iconst (v := 1) hx hb dX5_duties_5 (by decide) ?_
    refine lv_goto (tgt := 10) hx hb dX5_duties_6 (by decide) ?_
    refine lv_istore (lv' := [(4, .int 1), (0, .ref h), (1, .int (nI f)), (2, .int (nI t)), (3, .int (nI m2))]) hx hb dX5_duties_10 hl (by decide) rfl (fun ls hl => ?_)
    refine lv_iconst (v := 0) hx hb dX5_duties_12 (by decide) ?_
    refine lv_istore (lv' := [(5, .int 0), (4, .int 1), (0, .ref h), (1, .int (nI f)), (2, .int (nI t)), (3, .int (nI m2))]) hx hb dX5_duties_13 hl (by decide) rfl (fun ls hl => ?_)
    refine lv_iconst (v := nI 0) hx hb dX5_duties_15 (by decide) ?_
    refine lv_istore (lv' := [(6, .int (nI 0)), (5, .int 0), (4, .int 1), (0, .ref h), (1, .int (nI f)), (2, .int (nI t)), (3, .int (nI m2))]) hx hb dX5_duties_16 hl (by decide) rfl (fun ls hl => ?_)
    have loop_18 : ∀ (q i : Nat), i + q = m2 → ∀ (H : Heap) (locs : List Loc) (ls : Array Slot), va_P G vwCl (moT ca h a M) H → va_D A (moT ca h a M) → va_S A s.heap H locs → lv_has ls 7 [(0, .ref h), (1, .int (nI f)), (2, .int (nI t)), (3, .int (nI m2)), (4, .int 1), (5, .int (smD (fun k => zDu (m_z M) (plc k f t)) i)), (6, .int (nI i))] → W pr l en ({ frames := 3, cells := 0, slots := 0, locals := 64 } : Room) s m ([.ref h, .int (nI f), .int (nI t), .int (nI m2)] : List Value).toArray be me c H locs 0 0 Q (F0 m 18 ls []) := by
      intro q
      induction q with
      | zero =>
        intro i hi H locs ls hP hD hS hl
        obtain rfl : m2 = i := by omega
        refine lv_iload hx hb dX5_duties_18 (lv_at hl 6 rfl) ?_
        refine lv_iload_n hx hb dX5_duties_20 rfl (lv_at hl 3 rfl) ?_
        refine lv_icmp_ge (tgt := 46) hx hb dX5_duties_21 (by decide) (fun c_4 => ?_) (fun c_4 => ?_)
        · skip
          refine lv_iload hx hb dX5_duties_46 (lv_at hl 5 rfl) ?_
          exact hret _ _ _ _ hP hS dX5_duties_48
        · skip
          exact absurd (nI_le (by omega) (by omega)) c_4
      | succ q ih =>
        intro i hi H locs ls hP hD hS hl
        have hlt : i < m2 := by omega
        refine lv_iload hx hb dX5_duties_18 (lv_at hl 6 rfl) ?_
        refine lv_iload_n hx hb dX5_duties_20 rfl (lv_at hl 3 rfl) ?_
        refine lv_icmp_ge (tgt := 46) hx hb dX5_duties_21 (by decide) (fun c_5 => ?_) (fun c_5 => ?_)
        · skip
          exact absurd c_5 (nI_ge (by omega) (by omega))
        · skip
          refine lv_iload hx hb dX5_duties_24 (lv_at hl 5 rfl) ?_
          refine lv_aload_n hx hb dX5_duties_26 rfl (lv_at hl 0 rfl) ?_
          refine lv_iload_n hx hb dX5_duties_27 rfl (lv_at hl 1 rfl) ?_
          refine lv_iload hx hb dX5_duties_28 (lv_at hl 6 rfl) ?_
          refine lv_iload hx hb dX5_duties_30 (lv_at hl 4 rfl) ?_
          refine lv_imul hx hb dX5_duties_32 ?_
          refine lv_iadd hx hb dX5_duties_33 ?_
          refine lv_eqi (y := nI (plc i f t)) (by first | exact plcI_t (by assumption) | exact plcI_f (by assumption) (by omega)) ?_
          refine goIw (va_runV (As := [.int (nI (plc i f t))]) (rest := [.int (smD (fun k => zDu (m_z M) (plc k f t)) i)]) ⟨hx, hb, hml, hown, hts⟩ (CtI.use (c_X5_duty l G ca h a M (plc i f t) (plc_lt _ _ _ (by omega) (by omega) (by omega))) H.size) (cwV 1 hts gX5_duties_X5_duty rfl rfl rfl (by decide +kernel) ⟨Nat.le_of_ble_eq_true rfl, Nat.le_of_ble_eq_true rfl⟩) (pcW_V hev hP hD (q0 := 0) rfl rfl rfl) rfl rfl hl.1 rfl (lv_room (Nat.le_of_ble_eq_true rfl)) dX5_duties_34 ⟨Nat.zero_le _, Nat.zero_le _⟩) hD hS hA moF (fun H locs hP hD hS => ?_)
          refine lv_iadd hx hb dX5_duties_37 ?_
          refine lv_istore (lv' := [(5, .int ((smD (fun k => zDu (m_z M) (plc k f t)) i) + (zDu (m_z M) (plc i f t)))), (0, .ref h), (1, .int (nI f)), (2, .int (nI t)), (3, .int (nI m2)), (4, .int 1), (6, .int (nI i))]) hx hb dX5_duties_38 hl (by decide) rfl (fun ls hl => ?_)
          refine lv_iinc (v := nI (i + 1)) (lv' := [(6, .int (nI (i + 1))), (5, .int ((smD (fun k => zDu (m_z M) (plc k f t)) i) + (zDu (m_z M) (plc i f t)))), (0, .ref h), (1, .int (nI f)), (2, .int (nI t)), (3, .int (nI m2)), (4, .int 1)]) hx hb dX5_duties_40 hl (k := 6) rfl (nI_1 _) (by decide) rfl (fun ls hl => ?_)
          refine lv_goto (tgt := 18) hx hb dX5_duties_43 (by decide) ?_
          exact ih (i + 1) (by omega) _ _ _ hP (D_of hD moF) hS (lv_sub hl [2, 3, 4, 5, 6, 1, 0] rfl)
    exact loop_18 m2 0 (by omega) _ _ _ hP (D_of hD moF) hS (lv_sub hl [3, 4, 5, 6, 2, 1, 0] rfl)
