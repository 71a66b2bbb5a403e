/-! set: the tables LEAST_SETTING and MOST_SETTING -/
def lst4 (k : Nat) : Int32 := if k = 0 then 0 else if k = 1 then 0 else if k = 2 then 1 else 1
def mst4 (k : Nat) : Int32 := if k = 0 then 20 else if k = 1 then 20 else if k = 2 then 99 else 30
def SY (tL tM : Nat) (A : Nat → Prop) (U : State) : Prop := va_Z "PuddleMinistries" "LEAST_SETTING" "[I" (.ref tL) A U U.heap ∧ va_T .int tL 4 (fun k => .int (lst4 k)) A U U.heap ∧ va_Z "PuddleMinistries" "MOST_SETTING" "[I" (.ref tM) A U U.heap ∧ va_T .int tM 4 (fun k => .int (mst4 k)) A U U.heap
theorem SY.calling {tL tM : Nat} {A : Nat → Prop} {U : State} (a : Array Value) (g : JFrame) (mk : MethodId) (h : SY tL tM A U) : SY tL tM A (U.calling g mk a) := by
  obtain ⟨h0, h1, h2, h3⟩ := h
  exact ⟨va_Z.moved (u := U) (U := U.calling g mk a) (Vm.Alike.refl U.vm) h0, va_T.moved (u := U) (U := U.calling g mk a) (Vm.Alike.refl U.vm) h1, va_Z.moved (u := U) (U := U.calling g mk a) (Vm.Alike.refl U.vm) h2, va_T.moved (u := U) (U := U.calling g mk a) (Vm.Alike.refl U.vm) h3⟩
theorem SY.sub {tL tM : Nat} {A B : Nat → Prop} {s : State} {H : Heap} {locs : List Loc} (hX : SY tL tM A s) (hS : va_S A s.heap H locs) (hF : ∀ q, B q → A q) : ∀ U : State, U.heap = H → s.WarmedH U.vm → SY tL tM B U := by
  intro U hU hW
  obtain ⟨h0, h1, h2, h3⟩ := hX
  subst hU
  exact ⟨((h0.kept (fun a p q => hS.2.1 a p q)).narrow hF).moved hW.alike, ((h1.kept (fun a p q => hS.2.1 a p q)).narrow hF).moved hW.alike, ((h2.kept (fun a p q => hS.2.1 a p q)).narrow hF).moved hW.alike, ((h3.kept (fun a p q => hS.2.1 a p q)).narrow hF).moved hW.alike⟩
def pcY (G : va_G) (ca : Nat → ClassId) (tL tM : Nat) (Wd : va_W) (as : List Value) (sz : Nat) : Array Value → State → Prop := va_Pc as (fun U => U.heap.size = sz ∧ va_P G vwCl Wd U.heap ∧ EV G ca U ∧ va_D (fun _ => True) Wd ∧ SY tL tM (va_A Wd sz) U)
def CtS (l : Launch) (y : MethodName) (ws : List Cond) (rm : Room) (as : List Value) (G : va_G) (ca : Nat → ClassId) (tL tM : Nat) (Wd Wd' : va_W) (r : Int32) : Prop := ∀ sz : Nat, Met l y ws rm (pcY G ca tL tM Wd as sz) (va_Qi (fun (r' : Int32) (_ : Unit) => r' = r) (fun _ t => va_P G vwCl Wd' t.heap) (va_A Wd sz)) 0 0 (va_A Wd sz)
theorem pcY_blind {G : va_G} {ca : Nat → ClassId} {tL tM : Nat} {Wd : va_W} {as : List Value} {sz : Nat} : FrameBlind (pcY G ca tL tM Wd as sz) := fun a _ g mk q => ⟨q.1, q.2.1, q.2.2.1, q.2.2.2.1.calling a g mk, q.2.2.2.2.1, q.2.2.2.2.2.calling a g mk⟩
theorem CtI.toS {l : Launch} {y : MethodName} {ws : List Cond} {rm : Room} {as : List Value} {G : va_G} {ca : Nat → ClassId} {Wd Wd' : va_W} {r : Int32} (tL tM : Nat) (h : CtI l y ws rm as G ca Wd Wd' r) : CtS l y ws rm as G ca tL tM Wd Wd' r := by
  intro sz p e ha hc hk s m args below hf happ hP hK
  exact h sz p e ha hc hk s m args below hf happ ⟨hP.1, hP.2.1, hP.2.2.1, hP.2.2.2.1, hP.2.2.2.2.1⟩ hK
theorem CtS.ofW {l : Launch} {y : MethodName} {ws ws' : List Cond} {rm : Room} {as : List Value} {G : va_G} {ca : Nat → ClassId} {tL tM : Nat} {Wd Wd' : va_W} {r : Int32} {cc : ByteArray} {maxL : Nat} {rt : FieldType} (hy : plainName y.cls = true) (hw : ws = Cond.code y cc maxL (some rt) :: ws') (hlen : (lg_sl as).length ≤ maxL) (hn : narrow rt (.int r) = .int r)
    (k : ∀ (p : Program) (e : Env) (s : State) (m : MethodId) (below : List Frame) (meth : Method) (c : Code) (A : Nat → Prop) (ls : Array Slot) (Q : State → Prop) (H : Heap), p.tables.exec = Jvm.exec → c.code = cc → c.maxLocals = maxL → (∀ w ∈ ws, w.before as.toArray s = true) → s.vm.findClass y.cls = some m.cls → EV G ca s → va_P G vwCl Wd H → va_D A Wd → (∀ q : Nat, s.heap.size ≤ q → A q) → va_S A s.heap H [] → lv_has ls maxL (lv_args 0 as) → SY tL tM A s →
      (∀ (H : Heap) (locs : List Loc) (pc : Nat) (ls' : Array Slot), va_P G vwCl Wd' H → va_S A s.heap H locs → decode cc pc = .ok (.ireturn, 1) → W p l e rm s m as.toArray below meth c H locs 0 0 Q (F0 m pc ls' [.int r])) →
      W p l e rm s m as.toArray below meth c H [] 0 0 Q (F0 m 0 ls [])) : CtS l y ws rm as G ca tL tM Wd Wd' r := by
  intro sz
  refine Met.ofW (cc := cc) (maxL := maxL) (ret := some rt) hy hw ?_
  intro p e s m args below meth c s₁ B hml hv
  obtain ⟨rfl, hsz, hP, hK, hD0, hX⟩ := hv
  have hlocks := B.notSynchronized
  have hr := B.returns
  subst hsz
  rw [lg_entry_eq]
  exact k p e s m below meth c (va_A Wd s.heap.size) _ _ s.heap B.exec B.bytes hml (atoms_spec (ws := ws) B.pre) (findClass_of_methodNamed B.named) hK hP (hD0.self (sz := s.heap.size)) (fun q h => Or.inr h) va_S.rf (lv_entry as hlen) hX (fun H locs pc ls' h1 h2 h3 => W.zret B.exec B.bytes hr hn (fun t ht _ => ⟨⟨r, (), rfl, rfl, by rw [← ht] at h1; exact h1⟩, h2.F ht⟩) h2.2.2 h3 hlocks)
set_option maxHeartbeats 4000000 in
set_option maxRecDepth 100000 in
theorem c_X4_set_out (l : Launch) (G : va_G) (ca : Nat → ClassId) (tL tM : Nat) (xo sl : Nat) (hp ap : Nat) (g : Nat → Int32) (np : Nat) (hh ka : Nat) (n : Nat) (rf : Nat → Option Nat) (kj : Nat) (bj : Nat → Nat) (T : SS) (h : Nat) (a : Nat → Nat) (S : SS) (O : va_W) (Z : va_W) (x : Int32) (v : Int32) (hx0 : x < 0 ∨ nI 4 ≤ x) : CtS l yX4_set wsX4_set ({ frames := 0, cells := 0, slots := 0, locals := 0 }) [.ref xo, .int x, .int v] G ca tL tM ((xoT xo h hp hh sl) ++ ((paT ca hp ap (g, nI np)) ++ ((hiT ca hh ka (nI n) rf) ++ ((stT ca kj bj T) ++ ((stT ca h a S) ++ (O ++ Z)))))) ((xoT xo h hp hh sl) ++ ((paT ca hp ap (g, nI np)) ++ ((hiT ca hh ka (nI n) rf) ++ ((stT ca kj bj T) ++ ((stT ca h a S) ++ (O ++ Z)))))) (-2) := by
  refine CtS.ofW (cc := cX4_set) (maxL := 4) (rt := .int) (by decide) rfl (Nat.le_of_ble_eq_true rfl) rfl ?_
  intro pr en s m be me c A ls Q H hx hb hml hts hown hev hP hD hA hS hl hX hret
  have hown : s.vm.findClass RX4 = some m.cls := hown
  have hl : lv_has ls 4 [(0, .ref xo), (1, .int x), (2, .int v)] := hl
  have in_wsX40 : ∀ w ∈ wsX40, w ∈ wsX4_set := fun _ h => List.mem_cons_of_mem _ (List.mem_append_left _ (List.mem_append_left _ (List.mem_append_right _ h)))
  have in_wsX30 : ∀ w ∈ wsX30, w ∈ wsX4_set := fun _ h => List.mem_cons_of_mem _ (List.mem_append_left _ (List.mem_append_right _ h))
  have in_wsX00 : ∀ w ∈ wsX00, w ∈ wsX4_set := fun _ h => List.mem_cons_of_mem _ (List.mem_append_right _ h)
  refine lv_iload_n hx hb dX4_set_0 rfl (lv_at hl 1 rfl) ?_
  refine lv_if_lt (tgt := 9) hx hb dX4_set_1 (by decide) (fun c_1 => ?_) (fun c_1 => ?_)
  · skip
    refine lv_bipush (v := (-2)) hx hb dX4_set_9 (by decide) ?_
    exact hret _ _ _ _ hP hS dX4_set_11
  · skip
    refine lv_iload_n hx hb dX4_set_4 rfl (lv_at hl 1 rfl) ?_
    refine lv_iconst (v := nI 4) hx hb dX4_set_5 (by decide) ?_
    refine lv_icmp_lt (tgt := 12) hx hb dX4_set_6 (by decide) (fun c_2 => ?_) (fun c_2 => ?_)
    · skip
      exact absurd c_2 (Int32.not_lt.mpr (nI_out hx0 c_1))
    · skip
      refine lv_bipush (v := (-2)) hx hb dX4_set_9 (by decide) ?_
      exact hret _ _ _ _ hP hS dX4_set_11
set_option maxHeartbeats 4000000 in
set_option maxRecDepth 100000 in
theorem c_X4_set_bad (l : Launch) (G : va_G) (ca : Nat → ClassId) (tL tM : Nat) (xo sl : Nat) (hp ap : Nat) (g : Nat → Int32) (np : Nat) (hh ka : Nat) (n : Nat) (rf : Nat → Option Nat) (kj : Nat) (bj : Nat → Nat) (T : SS) (h : Nat) (a : Nat → Nat) (S : SS) (O : va_W) (Z : va_W) (k : Nat) (v : Int32) (hk : k < 4) (hv : v < lst4 k ∨ ¬ v ≤ mst4 k) : CtS l yX4_set wsX4_set ({ frames := 0, cells := 0, slots := 0, locals := 0 }) [.ref xo, .int (nI k), .int v] G ca tL tM ((xoT xo h hp hh sl) ++ ((paT ca hp ap (g, nI np)) ++ ((hiT ca hh ka (nI n) rf) ++ ((stT ca kj bj T) ++ ((stT ca h a S) ++ (O ++ Z)))))) ((xoT xo h hp hh sl) ++ ((paT ca hp ap (g, nI np)) ++ ((hiT ca hh ka (nI n) rf) ++ ((stT ca kj bj T) ++ ((stT ca h a S) ++ (O ++ Z)))))) (-2) := by
  refine CtS.ofW (cc := cX4_set) (maxL := 4) (rt := .int) (by decide) rfl (Nat.le_of_ble_eq_true rfl) rfl ?_
  intro pr en s m be me c A ls Q H hx hb hml hts hown hev hP hD hA hS hl hX hret
  have hown : s.vm.findClass RX4 = some m.cls := hown
  have hl : lv_has ls 4 [(0, .ref xo), (1, .int (nI k)), (2, .int v)] := hl
  have in_wsX40 : ∀ w ∈ wsX40, w ∈ wsX4_set := fun _ h => List.mem_cons_of_mem _ (List.mem_append_left _ (List.mem_append_left _ (List.mem_append_right _ h)))
  have in_wsX30 : ∀ w ∈ wsX30, w ∈ wsX4_set := fun _ h => List.mem_cons_of_mem _ (List.mem_append_left _ (List.mem_append_right _ h))
  have in_wsX00 : ∀ w ∈ wsX00, w ∈ wsX4_set := fun _ h => List.mem_cons_of_mem _ (List.mem_append_right _ h)
  refine lv_iload_n hx hb dX4_set_0 rfl (lv_at hl 1 rfl) ?_
  refine lv_if_lt (tgt := 9) hx hb dX4_set_1 (by decide) (fun c_1 => ?_) (fun c_1 => ?_)
  · skip
    exact absurd c_1 (nI_pos (by omega))
  · skip
    refine lv_iload_n hx hb dX4_set_4 rfl (lv_at hl 1 rfl) ?_
    refine lv_iconst (v := nI 4) hx hb dX4_set_5 (by decide) ?_
    refine lv_icmp_lt (tgt := 12) hx hb dX4_set_6 (by decide) (fun c_2 => ?_) (fun c_2 => ?_)
    · skip
      have nc_2 : k < 4 := (nI_ltI (a := k) (b := 4) (by omega) (by omega)).mp c_2
      refine lv_iload_n hx hb dX4_set_12 rfl (lv_at hl 2 rfl) ?_
      refine va_gets hx hb hX.1 hS hown (hts (.fieldLink RX4 37 "PuddleMinistries" "LEAST_SETTING" "[I") (List.mem_of_getElem? (i := 1) rfl)) (fun _ h9 => h9) dX4_set_13 ?_
      refine lv_iload_n hx hb dX4_set_16 rfl (lv_at hl 1 rfl) ?_
      refine va_ti hx hb hX.2.1 hS (vp_in_nI (n := k) (by omega) (by decide)) (v := .int (lst4 k)) (by rw [nI_clamp (by omega)]) dX4_set_17 ?_
      refine lv_icmp_lt (tgt := 30) hx hb dX4_set_18 (by decide) (fun c_3 => ?_) (fun c_3 => ?_)
      · skip
        refine lv_bipush (v := (-2)) hx hb dX4_set_30 (by decide) ?_
        exact hret _ _ _ _ hP hS dX4_set_32
      · skip
        refine lv_iload_n hx hb dX4_set_21 rfl (lv_at hl 2 rfl) ?_
        refine va_gets hx hb hX.2.2.1 hS hown (hts (.fieldLink RX4 41 "PuddleMinistries" "MOST_SETTING" "[I") (List.mem_of_getElem? (i := 2) rfl)) (fun _ h9 => h9) dX4_set_22 ?_
        refine lv_iload_n hx hb dX4_set_25 rfl (lv_at hl 1 rfl) ?_
        refine va_ti hx hb hX.2.2.2 hS (vp_in_nI (n := k) (by omega) (by decide)) (v := .int (mst4 k)) (by rw [nI_clamp (by omega)]) dX4_set_26 ?_
        refine lv_icmp_le (tgt := 33) hx hb dX4_set_27 (by decide) (fun c_4 => ?_) (fun c_4 => ?_)
        · skip
          exact hv.elim (fun q => absurd q (by assumption)) (fun q => absurd c_4 q)
        · skip
          refine lv_bipush (v := (-2)) hx hb dX4_set_30 (by decide) ?_
          exact hret _ _ _ _ hP hS dX4_set_32
    · skip
      have nc_2 : ¬ k < 4 := fun q => c_2 ((nI_ltI (a := k) (b := 4) (by omega) (by omega)).mpr q)
      refine lv_bipush (v := (-2)) hx hb dX4_set_9 (by decide) ?_
      exact hret _ _ _ _ hP hS dX4_set_11
set_option maxHeartbeats 4000000 in
set_option maxRecDepth 100000 in
theorem c_X4_set_ok (l : Launch) (G : va_G) (ca : Nat → ClassId) (tL tM : Nat) (xo sl : Nat) (hp ap : Nat) (g : Nat → Int32) (np : Nat) (hh ka : Nat) (n : Nat) (rf : Nat → Option Nat) (kj : Nat) (bj : Nat → Nat) (T : SS) (h : Nat) (a : Nat → Nat) (S : SS) (O : va_W) (Z : va_W) (k : Nat) (v : Int32) (hn6 : n ≤ 6) (hkj : recT n rf = some kj) (hob : ∀ i, i < 6 → ∃ (v x : Nat) (y : List Value), rf i = some v ∧ (hiT ca hh ka (nI n) rf ++ (stT ca kj bj T ++ (stT ca h a S ++ O)))[x]? = some (v, .inr (3, y))) (hk : k < 4) (hv1 : ¬ v < lst4 k) (hv2 : v ≤ mst4 k) : CtS l yX4_set wsX4_set ({ frames := 3, cells := 0, slots := 0, locals := 64 }) [.ref xo, .int (nI k), .int v] G ca tL tM ((xoT xo h hp hh sl) ++ ((paT ca hp ap (g, nI np)) ++ ((hiT ca hh ka (nI n) rf) ++ ((stT ca kj bj T) ++ ((stT ca h a S) ++ (O ++ Z)))))) ((xoT xo h hp hh sl) ++ ((paT ca hp ap (g, nI np)) ++ ((hiT ca hh ka (nI (recN n)) (recR n rf)) ++ ((stT ca kj bj S) ++ ((stT ca h a (upd (s_se S) k v, s_br S, s_wa S, s_cr S, s_sh S, s_ow S, s_pa S, s_cb S, s_pd S, s_fz S, s_dk S, s_dy S, s_fe S, s_dr S, s_dn S)) ++ (O ++ Z)))))) (s_se S k) := by
  refine CtS.ofW (cc := cX4_set) (maxL := 4) (rt := .int) (by decide) rfl (Nat.le_of_ble_eq_true rfl) rfl ?_
  intro pr en s m be me c A ls Q H hx hb hml hts hown hev hP hD hA hS hl hX hret
  have hown : s.vm.findClass RX4 = some m.cls := hown
  have hl : lv_has ls 4 [(0, .ref xo), (1, .int (nI k)), (2, .int v)] := hl
  have in_wsX40 : ∀ w ∈ wsX40, w ∈ wsX4_set := fun _ h => List.mem_cons_of_mem _ (List.mem_append_left _ (List.mem_append_left _ (List.mem_append_right _ h)))
  have in_wsX30 : ∀ w ∈ wsX30, w ∈ wsX4_set := fun _ h => List.mem_cons_of_mem _ (List.mem_append_left _ (List.mem_append_right _ h))
  have in_wsX00 : ∀ w ∈ wsX00, w ∈ wsX4_set := fun _ h => List.mem_cons_of_mem _ (List.mem_append_right _ h)
  refine lv_iload_n hx hb dX4_set_0 rfl (lv_at hl 1 rfl) ?_
  refine lv_if_lt (tgt := 9) hx hb dX4_set_1 (by decide) (fun c_1 => ?_) (fun c_1 => ?_)
  · skip
    exact absurd c_1 (nI_pos (by omega))
  · skip
    refine lv_iload_n hx hb dX4_set_4 rfl (lv_at hl 1 rfl) ?_
    refine lv_iconst (v := nI 4) hx hb dX4_set_5 (by decide) ?_
    refine lv_icmp_lt (tgt := 12) hx hb dX4_set_6 (by decide) (fun c_2 => ?_) (fun c_2 => ?_)
    · skip
      refine lv_iload_n hx hb dX4_set_12 rfl (lv_at hl 2 rfl) ?_
      refine va_gets hx hb hX.1 hS hown (hts (.fieldLink RX4 37 "PuddleMinistries" "LEAST_SETTING" "[I") (List.mem_of_getElem? (i := 1) rfl)) (fun _ h9 => h9) dX4_set_13 ?_
      refine lv_iload_n hx hb dX4_set_16 rfl (lv_at hl 1 rfl) ?_
      refine va_ti hx hb hX.2.1 hS (vp_in_nI (n := k) (by omega) (by decide)) (v := .int (lst4 k)) (by rw [nI_clamp (by omega)]) dX4_set_17 ?_
      refine lv_icmp_lt (tgt := 30) hx hb dX4_set_18 (by decide) (fun c_3 => ?_) (fun c_3 => ?_)
      · skip
        exact absurd c_3 hv1
      · skip
        refine lv_iload_n hx hb dX4_set_21 rfl (lv_at hl 2 rfl) ?_
        refine va_gets hx hb hX.2.2.1 hS hown (hts (.fieldLink RX4 41 "PuddleMinistries" "MOST_SETTING" "[I") (List.mem_of_getElem? (i := 2) rfl)) (fun _ h9 => h9) dX4_set_22 ?_
        refine lv_iload_n hx hb dX4_set_25 rfl (lv_at hl 1 rfl) ?_
        refine va_ti hx hb hX.2.2.2 hS (vp_in_nI (n := k) (by omega) (by decide)) (v := .int (mst4 k)) (by rw [nI_clamp (by omega)]) dX4_set_26 ?_
        refine lv_icmp_le (tgt := 33) hx hb dX4_set_27 (by decide) (fun c_4 => ?_) (fun c_4 => ?_)
        · skip
          refine lv_aload_n hx hb dX4_set_33 rfl (lv_at hl 0 rfl) ?_
          refine va_get (D := G) (ci := 4) (v := .ref hh) (C := RX4) (T := TX4) (N := 4) hx hb hts in_wsX40 hown hev.1 hP 0 rfl rfl 2 (by decide) (hts (.fieldLink RX4 26 "PuddleMinistries" "history" "LPuddleMinistries$History;") (List.mem_of_getElem? (i := 3) rfl)) (fun _ h9 => h9) rfl dX4_set_34 ?_
          refine lv_aload_n hx hb dX4_set_37 rfl (lv_at hl 0 rfl) ?_
          refine va_get (D := G) (ci := 4) (v := .ref h) (C := RX4) (T := TX4) (N := 4) hx hb hts in_wsX40 hown hev.1 hP 0 rfl rfl 0 (by decide) (hts (.fieldLink RX4 10 "PuddleMinistries" "street" "LPuddleMinistries$Street;") (List.mem_of_getElem? (i := 4) rfl)) (fun _ h9 => h9) rfl dX4_set_38 ?_
          have hP : va_P G vwCl (((xoT xo h hp hh sl) ++ (paT ca hp ap (g, nI np))) ++ (((hiT ca hh ka (nI n) rf) ++ ((stT ca kj bj T) ++ ((stT ca h a S) ++ O))) ++ Z)) H := hP
          have hD : va_D A (((xoT xo h hp hh sl) ++ (paT ca hp ap (g, nI np))) ++ (((hiT ca hh ka (nI n) rf) ++ ((stT ca kj bj T) ++ ((stT ca h a S) ++ O))) ++ Z)) := hD
          refine goV (va_runV (As := [.ref h]) (rest := []) ⟨hx, hb, hml, hown, hts⟩ (CtV.use (c_X0_record l G ca hh ka n rf kj bj T h a S O hn6 hkj hob) H.size) (cwV 1 hts gX4_set_X0_record rfl rfl rfl (by decide +kernel) ⟨Nat.le_of_ble_eq_true rfl, Nat.le_of_ble_eq_true rfl⟩) (pcW_V hev (P_left (P_right hP)) (D_left (D_right hD)) (q0 := 0) rfl rfl rfl) rfl rfl hl.1 rfl (lv_room (Nat.le_of_ble_eq_true rfl)) dX4_set_41 ⟨Nat.zero_le _, Nat.zero_le _⟩) hP hD hS hA (app_F hiF (app_F stF (app_F stF rfl))) (fun H locs hP hD hS => ?_)
          have hP : va_P G vwCl ((xoT xo h hp hh sl) ++ ((paT ca hp ap (g, nI np)) ++ ((hiT ca hh ka (nI (recN n)) (recR n rf)) ++ ((stT ca kj bj S) ++ ((stT ca h a S) ++ (O ++ Z)))))) H := hP
          have hD : va_D A ((xoT xo h hp hh sl) ++ ((paT ca hp ap (g, nI np)) ++ ((hiT ca hh ka (nI (recN n)) (recR n rf)) ++ ((stT ca kj bj S) ++ ((stT ca h a S) ++ (O ++ Z)))))) := hD
          refine lv_aload_n hx hb dX4_set_44 rfl (lv_at hl 0 rfl) ?_
          refine va_get (D := G) (ci := 4) (v := .ref h) (C := RX4) (T := TX4) (N := 4) hx hb hts in_wsX40 hown hev.1 hP 0 rfl rfl 0 (by decide) (hts (.fieldLink RX4 10 "PuddleMinistries" "street" "LPuddleMinistries$Street;") (List.mem_of_getElem? (i := 4) rfl)) (fun _ h9 => h9) rfl dX4_set_45 ?_
          refine va_get (D := G) (ci := 3) (v := .ref (a 0)) (C := RX3) (T := TX3) (N := 15) hx hb hts in_wsX30 hown hev.1 hP 15 rfl rfl 0 (by decide) (hts (.fieldLink RX4 48 "PuddleMinistries$Street" "settings" "[I") (List.mem_of_getElem? (i := 5) rfl)) (fun _ h9 => h9) rfl dX4_set_48 ?_
          refine lv_iload_n hx hb dX4_set_51 rfl (lv_at hl 1 rfl) ?_
          refine b_iald hx hb hev.1 hP 16 rfl rfl (j := k) (by omega) (by decide) dX4_set_52 ?_
          refine lv_istore_n (lv' := [(3, .int ((s_se S) k)), (0, .ref xo), (1, .int (nI k)), (2, .int v)]) hx hb dX4_set_53 rfl hl (by decide) rfl (fun ls hl => ?_)
          refine lv_aload_n hx hb dX4_set_54 rfl (lv_at hl 1 rfl) ?_
          refine va_get (D := G) (ci := 4) (v := .ref h) (C := RX4) (T := TX4) (N := 4) hx hb hts in_wsX40 hown hev.1 hP 0 rfl rfl 0 (by decide) (hts (.fieldLink RX4 10 "PuddleMinistries" "street" "LPuddleMinistries$Street;") (List.mem_of_getElem? (i := 4) rfl)) (fun _ h9 => h9) rfl dX4_set_55 ?_
          refine va_get (D := G) (ci := 3) (v := .ref (a 0)) (C := RX3) (T := TX3) (N := 15) hx hb hts in_wsX30 hown hev.1 hP 15 rfl rfl 0 (by decide) (hts (.fieldLink RX4 48 "PuddleMinistries$Street" "settings" "[I") (List.mem_of_getElem? (i := 5) rfl)) (fun _ h9 => h9) rfl dX4_set_58 ?_
          refine lv_iload_n hx hb dX4_set_61 rfl (lv_at hl 2 rfl) ?_
          refine lv_iload_n hx hb dX4_set_62 rfl (lv_at hl 3 rfl) ?_
          refine b_iast hx hb hev.1 hP hD hS 16 rfl rfl (j := k) (by omega) (by decide) dX4_set_63 (fun H locs hP hD hS => ?_)
          have hP : va_P G vwCl ((xoT xo h hp hh sl) ++ ((paT ca hp ap (g, nI np)) ++ ((hiT ca hh ka (nI (recN n)) (recR n rf)) ++ ((stT ca kj bj S) ++ ((stT ca h a (upd (s_se S) k v, s_br S, s_wa S, s_cr S, s_sh S, s_ow S, s_pa S, s_cb S, s_pd S, s_fz S, s_dk S, s_dy S, s_fe S, s_dr S, s_dn S)) ++ (O ++ Z)))))) H := hP
          have hD : va_D A ((xoT xo h hp hh sl) ++ ((paT ca hp ap (g, nI np)) ++ ((hiT ca hh ka (nI (recN n)) (recR n rf)) ++ ((stT ca kj bj S) ++ ((stT ca h a (upd (s_se S) k v, s_br S, s_wa S, s_cr S, s_sh S, s_ow S, s_pa S, s_cb S, s_pd S, s_fz S, s_dk S, s_dy S, s_fe S, s_dr S, s_dn S)) ++ (O ++ Z)))))) := hD
          refine lv_iload_n hx hb dX4_set_64 rfl (lv_at hl 0 rfl) ?_
          refine lv_eqi (y := s_se S k) rfl ?_
          exact hret _ _ _ _ hP hS dX4_set_65
        · skip
          exact absurd hv2 c_4
    · skip
      exact absurd (nI_lt (by omega) (by omega)) c_2
