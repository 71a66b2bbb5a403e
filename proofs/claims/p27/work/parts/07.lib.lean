/-! MY KIT: one environment EV for all methods, contracts whose world keeps its addresses (CtI, CtV), entries and calls over them -/
abbrev TYS (ca : Nat → ClassId) : List (ClassId × FieldType) := [(ca 0, .int), (ca 1, .char), (ca 2, .boolean), (ca 3, .object "PuddleMinistries$Street")]
def nst0 : Cond := .methodLinkNest RX4 18 yX1_init RX4
def nst1 : Cond := .methodLinkNest RX3 42 yX4_copy RX4
def nst2 : Cond := .methodLinkNest RX3 65 yX4_isIn RX4
def nst3 : Cond := .methodLinkNest RX3 99 yX4_placeOf RX4
def nst4 : Cond := .methodLinkNest RX3 132 yX4_placeAfter RX4
def EV (G : va_G) (ca : Nat → ClassId) (U : State) : Prop := va_K G vwCl (TYS ca) U ∧ va_Nw nst0 U ∧ va_Nw nst1 U ∧ va_Nw nst2 U ∧ va_Nw nst3 U ∧ va_Nw nst4 U
theorem EV.calling {G : va_G} {ca : Nat → ClassId} {U : State} (a : Array Value) (g : JFrame) (mk : MethodId) (h : EV G ca U) : EV G ca (U.calling g mk a) := by
  obtain ⟨h0, h1, h2, h3, h4, h5⟩ := h
  exact ⟨va_K.moved (u := U) (U := U.calling g mk a) (Vm.Alike.refl U.vm) h0, va_Nw.same rfl rfl h1, va_Nw.same rfl rfl h2, va_Nw.same rfl rfl h3, va_Nw.same rfl rfl h4, va_Nw.same rfl rfl h5⟩
theorem EV.warm {G : va_G} {ca : Nat → ClassId} {s U : State} (h : EV G ca s) (hW : s.WarmedH U.vm) : EV G ca U := by
  obtain ⟨h0, h1, h2, h3, h4, h5⟩ := h
  exact ⟨va_K.moved hW.alike h0, va_Nw.warmM hW h1, va_Nw.warmM hW h2, va_Nw.warmM hW h3, va_Nw.warmM hW h4, va_Nw.warmM hW h5⟩
theorem D_fst {A : Nat → Prop} {ws ws' : va_W} (hf : ws'.map Prod.fst = ws.map Prod.fst) (hD : va_D A ws) : va_D A ws' := by
  have key : ∀ (k : Nat) (q : Nat × va_E), ws'[k]? = some q → ∃ q0, ws[k]? = some q0 ∧ q0.1 = q.1 := by
    intro k q hk
    have h1 : (ws'.map Prod.fst)[k]? = some q.1 := by rw [List.getElem?_map, hk]; rfl
    rw [hf, List.getElem?_map] at h1
    cases h2 : ws[k]? with
    | none => rw [h2] at h1; cases h1
    | some q0 => rw [h2] at h1; exact ⟨q0, rfl, Option.some.inj h1⟩
  refine ⟨fun i j x y hi hj hxy => ?_, fun k q hk => ?_⟩
  · obtain ⟨x0, h1, h2⟩ := key i x hi
    obtain ⟨y0, h3, h4⟩ := key j y hj
    exact hD.1 i j x0 y0 h1 h3 (h2.trans (hxy.trans h4.symm))
  · obtain ⟨q0, h1, h2⟩ := key k q hk
    rw [← h2]
    exact hD.2 k q0 h1
theorem mid_at {α : Type} {L M R : List α} {k : Nat} {q : α} (h : M[k]? = some q) : (L ++ (M ++ R))[L.length + k]? = some q := by
  rw [List.getElem?_append_right (Nat.le_add_right _ _), Nat.add_sub_cancel_left, List.getElem?_append_left (List.getElem?_eq_some_iff.mp h).1]
  exact h
theorem left_at {α : Type} {L M : List α} {k : Nat} {q : α} (h : L[k]? = some q) : (L ++ M)[k]? = some q := by
  rw [List.getElem?_append_left (List.getElem?_eq_some_iff.mp h).1]
  exact h
theorem right_at {α : Type} {L M : List α} {k : Nat} {q : α} (h : M[k]? = some q) : (L ++ M)[L.length + k]? = some q := by
  rw [List.getElem?_append_right (Nat.le_add_right _ _), Nat.add_sub_cancel_left]
  exact h
theorem P_left {G : va_G} {cl : List vw_C} {L M : va_W} {H : Heap} (h : va_P G cl (L ++ M) H) : va_P G cl L H := fun k q hk => h k q (left_at hk)
theorem P_right {G : va_G} {cl : List vw_C} {L M : va_W} {H : Heap} (h : va_P G cl (L ++ M) H) : va_P G cl M H := fun k q hk => h _ q (right_at hk)
theorem D_left {A : Nat → Prop} {L M : va_W} (h : va_D A (L ++ M)) : va_D A L := ⟨fun i j p q hi hj e => h.1 i j p q (left_at hi) (left_at hj) e, fun k q hk => h.2 k q (left_at hk)⟩
theorem D_right {A : Nat → Prop} {L M : va_W} (h : va_D A (L ++ M)) : va_D A M := ⟨fun i j p q hi hj e => by have := h.1 _ _ p q (right_at hi) (right_at hj) e; omega, fun k q hk => h.2 _ q (right_at hk)⟩
theorem D_apart {A : Nat → Prop} {L M : va_W} (h : va_D A (L ++ M)) {i j : Nat} {p q : Nat × va_E} (hi : L[i]? = some p) (hj : M[j]? = some q) : p.1 ≠ q.1 := by
  intro e
  have h1 := h.1 _ _ p q (left_at hi) (right_at hj) e
  have h2 := (List.getElem?_eq_some_iff.mp hi).1
  omega
theorem P_mid {G : va_G} {cl : List vw_C} {A : Nat → Prop} {L Wc R Wc' : va_W} {H H1 : Heap} (hP : va_P G cl (L ++ (Wc ++ R)) H) (hD : va_D A (L ++ (Wc ++ R))) (hk : ∀ q : Nat, q < H.size → ¬ va_A Wc H.size q → H1[q]? = H[q]?) (hP1 : va_P G cl Wc' H1) : va_P G cl (L ++ (Wc' ++ R)) H1 := by
  refine va_P.app (fun k q hq => ?_) (va_P.app hP1 (fun k q hq => ?_))
  · have hl := (P_left hP k q hq).lt
    refine (P_left hP k q hq).kept (hk q.1 hl (fun z => ?_))
    rcases z with ⟨j, e, hj⟩ | z
    · exact D_apart hD hq (left_at hj) rfl
    · omega
  · have hl := (P_right (P_right hP) k q hq).lt
    refine (P_right (P_right hP) k q hq).kept (hk q.1 hl (fun z => ?_))
    rcases z with ⟨j, e, hj⟩ | z
    · exact D_apart (D_right hD) hj hq rfl
    · omega
theorem D_mid {A : Nat → Prop} {L Wc R Wc' : va_W} (hf : Wc'.map Prod.fst = Wc.map Prod.fst) (hD : va_D A (L ++ (Wc ++ R))) : va_D A (L ++ (Wc' ++ R)) := D_fst (by simp only [List.map_append, hf]) hD
theorem A_mid {A : Nat → Prop} {L Wc R : va_W} {H0 H : Heap} {locs : List Loc} (hD : va_D A (L ++ (Wc ++ R))) (hS : va_S A H0 H locs) (hA : ∀ q : Nat, H0.size ≤ q → A q) : ∀ q, va_A Wc H.size q → A q := by
  intro q h
  rcases h with ⟨k, e, h⟩ | h
  · exact (D_left (D_right hD)).2 k (q, e) h
  · exact hA q (Nat.le_trans hS.1 h)
/-- a contract's start: the arguments, the world, the environment -/
def pcW (G : va_G) (ca : Nat → ClassId) (Wd : va_W) (as : List Value) (sz : Nat) : Array Value → State → Prop := va_Pc as (fun U => U.heap.size = sz ∧ va_P G vwCl Wd U.heap ∧ EV G ca U ∧ va_D (fun _ => True) Wd)
def CtI (l : Launch) (y : MethodName) (ws : List Cond) (rm : Room) (as : List Value) (G : va_G) (ca : Nat → ClassId) (Wd Wd' : va_W) (r : Int32) : Prop := ∀ sz : Nat, Met l y ws rm (pcW G ca Wd as sz) (va_Qi (fun (r' : Int32) (_ : Unit) => r' = r) (fun _ t => va_P G vwCl Wd' t.heap) (va_A Wd sz)) 0 0 (va_A Wd sz)
def CtV (l : Launch) (y : MethodName) (ws : List Cond) (rm : Room) (as : List Value) (G : va_G) (ca : Nat → ClassId) (Wd Wd' : va_W) : Prop := ∀ sz : Nat, Met l y ws rm (pcW G ca Wd as sz) (va_Qv (fun (_ : Unit) => True) (fun _ t => va_P G vwCl Wd' t.heap) (va_A Wd sz)) 0 0 (va_A Wd sz)
theorem pcW_blind {G : va_G} {ca : Nat → ClassId} {Wd : va_W} {as : List Value} {sz : Nat} : FrameBlind (pcW G ca Wd as sz) := fun a _ g mk q => ⟨q.1, q.2.1, q.2.2.1, q.2.2.2.1.calling a g mk, q.2.2.2.2⟩
theorem pcW_V {G : va_G} {ca : Nat → ClassId} {A : Nat → Prop} {Wd : va_W} {s : State} {H : Heap} {b : Addr} {As : List Value} {C : String} {q0 ci : Nat} {q : vw_C} {fs : List Value} (hev : EV G ca s) (hP : va_P G vwCl Wd H) (hD : va_D A Wd) (he : Wd[q0]? = some (b, .inr (ci, fs))) (hc : vwCl[ci]? = some q) (hC : q.1 = C) : PreV s H C b (pcW G ca Wd (.ref b :: As) H.size) As :=
  ⟨pcW_blind, hC ▸ va_recv hev.1 hP hc he, fun U hU hW => ⟨rfl, by rw [hU], by rw [hU]; exact hP, hev.warm hW, hD.weaken (fun _ _ _ _ => trivial)⟩⟩
theorem pcW_S {G : va_G} {ca : Nat → ClassId} {A : Nat → Prop} {Wd : va_W} {s : State} {H : Heap} {As : List Value} (hev : EV G ca s) (hP : va_P G vwCl Wd H) (hD : va_D A Wd) : PreS s H (pcW G ca Wd As H.size) As :=
  ⟨pcW_blind, fun U hU hW => ⟨rfl, by rw [hU], by rw [hU]; exact hP, hev.warm hW, hD.weaken (fun _ _ _ _ => trivial)⟩⟩
theorem CtI.ofW {l : Launch} {y : MethodName} {ws ws' : List Cond} {rm : Room} {as : List Value} {G : va_G} {ca : Nat → ClassId} {Wd Wd' : va_W} {r : Int32} {cc : ByteArray} {maxL : Nat} {rt : FieldType} (hy : plainName y.cls = true) (hw : ws = Cond.code y cc maxL (some rt) :: ws') (hlen : (lg_sl as).length ≤ maxL) (hn : narrow rt (.int r) = .int r)
    (k : ∀ (p : Program) (e : Env) (s : State) (m : MethodId) (below : List Frame) (meth : Method) (c : Code) (A : Nat → Prop) (ls : Array Slot) (Q : State → Prop) (H : Heap), p.tables.exec = Jvm.exec → c.code = cc → c.maxLocals = maxL → (∀ w ∈ ws, w.before as.toArray s = true) → s.vm.findClass y.cls = some m.cls → EV G ca s → va_P G vwCl Wd H → va_D A Wd → (∀ q : Nat, s.heap.size ≤ q → A q) → va_S A s.heap H [] → lv_has ls maxL (lv_args 0 as) →
      (∀ (H : Heap) (locs : List Loc) (pc : Nat) (ls' : Array Slot), va_P G vwCl Wd' H → va_S A s.heap H locs → decode cc pc = .ok (.ireturn, 1) → W p l e rm s m as.toArray below meth c H locs 0 0 Q (F0 m pc ls' [.int r])) →
      W p l e rm s m as.toArray below meth c H [] 0 0 Q (F0 m 0 ls [])) : CtI l y ws rm as G ca Wd Wd' r := by
  intro sz
  refine Met.ofW (cc := cc) (maxL := maxL) (ret := some rt) hy hw ?_
  intro p e s m args below meth c s₁ B hml hv
  obtain ⟨rfl, hsz, hP, hK, hD0⟩ := hv
  have hlocks := B.notSynchronized
  have hr := B.returns
  subst hsz
  rw [lg_entry_eq]
  exact k p e s m below meth c (va_A Wd s.heap.size) _ _ s.heap B.exec B.bytes hml (atoms_spec (ws := ws) B.pre) (findClass_of_methodNamed B.named) hK hP (hD0.self (sz := s.heap.size)) (fun q h => Or.inr h) va_S.rf (lv_entry as hlen) (fun H locs pc ls' h1 h2 h3 => W.zret B.exec B.bytes hr hn (fun t ht _ => ⟨⟨r, (), rfl, rfl, by rw [← ht] at h1; exact h1⟩, h2.F ht⟩) h2.2.2 h3 hlocks)
theorem CtV.ofW {l : Launch} {y : MethodName} {ws ws' : List Cond} {rm : Room} {as : List Value} {G : va_G} {ca : Nat → ClassId} {Wd Wd' : va_W} {cc : ByteArray} {maxL : Nat} (hy : plainName y.cls = true) (hw : ws = Cond.code y cc maxL none :: ws') (hlen : (lg_sl as).length ≤ maxL)
    (k : ∀ (p : Program) (e : Env) (s : State) (m : MethodId) (below : List Frame) (meth : Method) (c : Code) (A : Nat → Prop) (ls : Array Slot) (Q : State → Prop) (H : Heap), p.tables.exec = Jvm.exec → c.code = cc → c.maxLocals = maxL → (∀ w ∈ ws, w.before as.toArray s = true) → s.vm.findClass y.cls = some m.cls → EV G ca s → va_P G vwCl Wd H → va_D A Wd → (∀ q : Nat, s.heap.size ≤ q → A q) → va_S A s.heap H [] → lv_has ls maxL (lv_args 0 as) →
      (∀ (H : Heap) (locs : List Loc) (pc : Nat) (ls' : Array Slot), va_P G vwCl Wd' H → va_S A s.heap H locs → decode cc pc = .ok (.return_, 1) → W p l e rm s m as.toArray below meth c H locs 0 0 Q (F0 m pc ls' [])) →
      W p l e rm s m as.toArray below meth c H [] 0 0 Q (F0 m 0 ls [])) : CtV l y ws rm as G ca Wd Wd' := by
  intro sz
  refine Met.ofW (cc := cc) (maxL := maxL) (ret := none) hy hw ?_
  intro p e s m args below meth c s₁ B hml hv
  obtain ⟨rfl, hsz, hP, hK, hD0⟩ := hv
  have hlocks := B.notSynchronized
  have hr := B.returns
  subst hsz
  rw [lg_entry_eq]
  exact k p e s m below meth c (va_A Wd s.heap.size) _ _ s.heap B.exec B.bytes hml (atoms_spec (ws := ws) B.pre) (findClass_of_methodNamed B.named) hK hP (hD0.self (sz := s.heap.size)) (fun q h => Or.inr h) va_S.rf (lv_entry as hlen) (fun H locs pc ls' h1 h2 h3 => W.vret B.exec B.bytes hr (fun t ht _ => ⟨⟨(), rfl, trivial, by rw [← ht] at h1; exact h1⟩, h2.F ht⟩) h2.2.2 h3 hlocks)
section MYC
variable {p : Program} {l : Launch} {e : Env} {R : Room} {s : State} {m : MethodId} {args : Array Value} {below : List Frame} {meth : Method} {c : Code} {H : Heap} {locs : List Loc} {cells slots : Nat} {Q : State → Prop}
variable {cc : ByteArray} {pc : Nat} {ls : Array Slot} {rest st0 : List Value} {a : Array Value} {A : Nat → Prop} {H0 : Heap} {G : va_G} {Lw Wc Wc' Rw : va_W} {r : Int32}
theorem goI (hr : va_Run p l e R s m args below meth c H locs cells slots 0 0 (F0 m pc ls st0) rest (va_Qi (fun (r' : Int32) (_ : Unit) => r' = r) (fun _ t => va_P G vwCl Wc' t.heap) (va_A Wc H.size) a) (va_A Wc H.size)) (hP : va_P G vwCl (Lw ++ (Wc ++ Rw)) H) (hD : va_D A (Lw ++ (Wc ++ Rw))) (hS : va_S A H0 H locs) (hA : ∀ q : Nat, H0.size ≤ q → A q) (hf : Wc'.map Prod.fst = Wc.map Prod.fst)
    (kk : ∀ (H1 : Heap) (locs1 : List Loc), va_P G vwCl (Lw ++ (Wc' ++ Rw)) H1 → va_D A (Lw ++ (Wc' ++ Rw)) → va_S A H0 H1 locs1 → W p l e R s m args below meth c H1 locs1 cells slots Q (F0 m (pc + 3) ls (.int r :: rest))) : W p l e R s m args below meth c H locs cells slots Q (F0 m pc ls st0) := by
  have hF := A_mid hD hS hA
  refine va_calli hr hS (fun q _ h => hF q h) hF (fun r' u t H1 locs1 ht _ hw hB _ hk1 hS1 => ?_)
  subst hw
  rw [ht] at hB
  exact kk H1 locs1 (P_mid hP hD hk1 hB) (D_mid hf hD) hS1
theorem goIw (hr : va_Run p l e R s m args below meth c H locs cells slots 0 0 (F0 m pc ls st0) rest (va_Qi (fun (r' : Int32) (_ : Unit) => r' = r) (fun _ t => va_P G vwCl Wc' t.heap) (va_A Wc H.size) a) (va_A Wc H.size)) (hD : va_D A Wc) (hS : va_S A H0 H locs) (hA : ∀ q : Nat, H0.size ≤ q → A q) (hf : Wc'.map Prod.fst = Wc.map Prod.fst)
    (kk : ∀ (H1 : Heap) (locs1 : List Loc), va_P G vwCl Wc' H1 → va_D A Wc' → va_S A H0 H1 locs1 → W p l e R s m args below meth c H1 locs1 cells slots Q (F0 m (pc + 3) ls (.int r :: rest))) : W p l e R s m args below meth c H locs cells slots Q (F0 m pc ls st0) := by
  have hF := A_mid (L := []) (R := []) (by rw [List.append_nil]; exact hD) hS hA
  refine va_calli hr hS (fun q _ h => hF q h) hF (fun r' u t H1 locs1 ht _ hw hB _ hk1 hS1 => ?_)
  subst hw
  rw [ht] at hB
  exact kk H1 locs1 hB (D_fst hf hD) hS1
/-- a call that touches no world: the caller's stays as it is -/
theorem goI0 {Wd : va_W} (hr : va_Run p l e R s m args below meth c H locs cells slots 0 0 (F0 m pc ls st0) rest (va_Qi (fun (r' : Int32) (_ : Unit) => r' = r) (fun _ t => va_P G vwCl [] t.heap) (va_A [] H.size) a) (va_A [] H.size)) (hP : va_P G vwCl Wd H) (hS : va_S A H0 H locs) (hA : ∀ q : Nat, H0.size ≤ q → A q)
    (kk : ∀ (H1 : Heap) (locs1 : List Loc), va_P G vwCl Wd H1 → va_S A H0 H1 locs1 → W p l e R s m args below meth c H1 locs1 cells slots Q (F0 m (pc + 3) ls (.int r :: rest))) : W p l e R s m args below meth c H locs cells slots Q (F0 m pc ls st0) := by
  have hF : ∀ q, va_A [] H.size q → A q := by
    intro q h
    rcases h with ⟨k, e, h⟩ | h
    · simp at h
    · exact hA q (Nat.le_trans hS.1 h)
  refine va_calli hr hS (fun q _ h => hF q h) hF (fun r' u t H1 locs1 ht _ hw hB _ hk1 hS1 => ?_)
  subst hw
  refine kk H1 locs1 (hP.kept (fun k q hq => hk1 q.1 (hP k q hq).lt (fun z => ?_))) hS1
  rcases z with ⟨k, e, h⟩ | h
  · simp at h
  · have := (hP k q hq).lt
    omega
theorem goV (hr : va_Run p l e R s m args below meth c H locs cells slots 0 0 (F0 m pc ls st0) rest (va_Qv (fun (_ : Unit) => True) (fun _ t => va_P G vwCl Wc' t.heap) (va_A Wc H.size) a) (va_A Wc H.size)) (hP : va_P G vwCl (Lw ++ (Wc ++ Rw)) H) (hD : va_D A (Lw ++ (Wc ++ Rw))) (hS : va_S A H0 H locs) (hA : ∀ q : Nat, H0.size ≤ q → A q) (hf : Wc'.map Prod.fst = Wc.map Prod.fst)
    (kk : ∀ (H1 : Heap) (locs1 : List Loc), va_P G vwCl (Lw ++ (Wc' ++ Rw)) H1 → va_D A (Lw ++ (Wc' ++ Rw)) → va_S A H0 H1 locs1 → W p l e R s m args below meth c H1 locs1 cells slots Q (F0 m (pc + 3) ls rest)) : W p l e R s m args below meth c H locs cells slots Q (F0 m pc ls st0) := by
  have hF := A_mid hD hS hA
  refine va_callv hr hS (fun q _ h => hF q h) hF (fun u t H1 locs1 ht _ hw hB _ hk1 hS1 => ?_)
  rw [ht] at hB
  exact kk H1 locs1 (P_mid hP hD hk1 hB) (D_mid hf hD) hS1
theorem goVw (hr : va_Run p l e R s m args below meth c H locs cells slots 0 0 (F0 m pc ls st0) rest (va_Qv (fun (_ : Unit) => True) (fun _ t => va_P G vwCl Wc' t.heap) (va_A Wc H.size) a) (va_A Wc H.size)) (hD : va_D A Wc) (hS : va_S A H0 H locs) (hA : ∀ q : Nat, H0.size ≤ q → A q) (hf : Wc'.map Prod.fst = Wc.map Prod.fst)
    (kk : ∀ (H1 : Heap) (locs1 : List Loc), va_P G vwCl Wc' H1 → va_D A Wc' → va_S A H0 H1 locs1 → W p l e R s m args below meth c H1 locs1 cells slots Q (F0 m (pc + 3) ls rest)) : W p l e R s m args below meth c H locs cells slots Q (F0 m pc ls st0) := by
  have hF := A_mid (L := []) (R := []) (by rw [List.append_nil]; exact hD) hS hA
  refine va_callv hr hS (fun q _ h => hF q h) hF (fun u t H1 locs1 ht _ hw hB _ hk1 hS1 => ?_)
  rw [ht] at hB
  exact kk H1 locs1 hB (D_fst hf hD) hS1
/-- the number on top, said otherwise -/
theorem lv_eqi {x y : Int32} (h : x = y) (k : W p l e R s m args below meth c H locs cells slots Q (F0 m pc ls (.int y :: rest))) : W p l e R s m args below meth c H locs cells slots Q (F0 m pc ls (.int x :: rest)) := h ▸ k
theorem lv_eql {x y : Int64} (h : x = y) (k : W p l e R s m args below meth c H locs cells slots Q (F0 m pc ls (.long y :: rest))) : W p l e R s m args below meth c H locs cells slots Q (F0 m pc ls (.long x :: rest)) := h ▸ k
theorem b_iald {cl : List vw_C} {tys : List (ClassId × FieldType)} {ws : va_W} {o : Nat} (hexec : p.tables.exec = Jvm.exec) (hb : c.code = cc) (hK : va_K G cl tys s) (hP : va_P G cl ws H) (q0 : Nat) {cA : ClassId} {n : Nat} {f : Nat → Int32} (ha : ws[q0]? = some (o, .inl (cA, n, .inl f))) (ht : tys[0]? = some (cA, .int)) {j : Nat} (hj : j < n) (hn : n < 2 ^ 31) (hdg : decode cc pc = .ok (.iaload, 1))
    (kk : W p l e R s m args below meth c H locs cells slots Q (F0 m (pc + 1) ls (.int (f j) :: rest))) : W p l e R s m args below meth c H locs cells slots Q (F0 m pc ls (.int (nI j) :: .ref o :: rest)) := by
  refine va_iald hexec hb hK hP q0 0 ha ht (vp_in_nI hj hn) hdg ?_
  rw [nI_clamp (Nat.lt_trans hj hn)]
  exact kk
theorem b_cald {cl : List vw_C} {tys : List (ClassId × FieldType)} {ws : va_W} {o : Nat} (hexec : p.tables.exec = Jvm.exec) (hb : c.code = cc) (hK : va_K G cl tys s) (hP : va_P G cl ws H) (q0 : Nat) {cA : ClassId} {n : Nat} {f : Nat → Int32} (ha : ws[q0]? = some (o, .inl (cA, n, .inl f))) (ht : tys[1]? = some (cA, .char)) {j : Nat} (hj : j < n) (hn : n < 2 ^ 31) (hdg : decode cc pc = .ok (.caload, 1))
    (kk : W p l e R s m args below meth c H locs cells slots Q (F0 m (pc + 1) ls (.int (f j) :: rest))) : W p l e R s m args below meth c H locs cells slots Q (F0 m pc ls (.int (nI j) :: .ref o :: rest)) := by
  refine va_cald hexec hb hK hP q0 1 ha ht (vp_in_nI hj hn) hdg ?_
  rw [nI_clamp (Nat.lt_trans hj hn)]
  exact kk
theorem b_zald {cl : List vw_C} {tys : List (ClassId × FieldType)} {ws : va_W} {o : Nat} (hexec : p.tables.exec = Jvm.exec) (hb : c.code = cc) (hK : va_K G cl tys s) (hP : va_P G cl ws H) (q0 : Nat) {cA : ClassId} {n : Nat} {f : Nat → Int32} (ha : ws[q0]? = some (o, .inl (cA, n, .inl f))) (ht : tys[2]? = some (cA, .boolean)) {j : Nat} (hj : j < n) (hn : n < 2 ^ 31) (hdg : decode cc pc = .ok (.baload, 1))
    (kk : W p l e R s m args below meth c H locs cells slots Q (F0 m (pc + 1) ls (.int (f j) :: rest))) : W p l e R s m args below meth c H locs cells slots Q (F0 m pc ls (.int (nI j) :: .ref o :: rest)) := by
  refine va_zald hexec hb hK hP q0 2 ha ht (vp_in_nI hj hn) hdg ?_
  rw [nI_clamp (Nat.lt_trans hj hn)]
  exact kk
theorem b_iast {cl : List vw_C} {tys : List (ClassId × FieldType)} {ws : va_W} {o : Nat} (hexec : p.tables.exec = Jvm.exec) (hb : c.code = cc) (hK : va_K G cl tys s) (hP : va_P G cl ws H) (hD : va_D A ws) (hS : va_S A H0 H locs) (q0 : Nat) {cA : ClassId} {n : Nat} {f : Nat → Int32} (ha : ws[q0]? = some (o, .inl (cA, n, .inl f))) (ht : tys[0]? = some (cA, .int)) {j : Nat} {x : Int32} (hj : j < n) (hn : n < 2 ^ 31) (hdg : decode cc pc = .ok (.iastore, 1))
    (kk : ∀ (H1 : Heap) (locs1 : List Loc), va_P G cl (ws.set q0 (o, .inl (cA, n, .inl (upd f j x)))) H1 → va_D A (ws.set q0 (o, .inl (cA, n, .inl (upd f j x)))) → va_S A H0 H1 locs1 → W p l e R s m args below meth c H1 locs1 cells slots Q (F0 m (pc + 1) ls rest)) : W p l e R s m args below meth c H locs cells slots Q (F0 m pc ls (.int x :: .int (nI j) :: .ref o :: rest)) := by
  refine va_iast hexec hb hK hP hD hS q0 0 ha ht (vp_in_nI hj hn) hdg ?_
  rw [nI_clamp (Nat.lt_trans hj hn)]
  exact kk
theorem b_cast {cl : List vw_C} {tys : List (ClassId × FieldType)} {ws : va_W} {o : Nat} (hexec : p.tables.exec = Jvm.exec) (hb : c.code = cc) (hK : va_K G cl tys s) (hP : va_P G cl ws H) (hD : va_D A ws) (hS : va_S A H0 H locs) (q0 : Nat) {cA : ClassId} {n : Nat} {f : Nat → Int32} (ha : ws[q0]? = some (o, .inl (cA, n, .inl f))) (ht : tys[1]? = some (cA, .char)) {j : Nat} {x : Int32} (hj : j < n) (hn : n < 2 ^ 31) (hdg : decode cc pc = .ok (.castore, 1))
    (kk : ∀ (H1 : Heap) (locs1 : List Loc), va_P G cl (ws.set q0 (o, .inl (cA, n, .inl (upd f j (vp_nar .char x))))) H1 → va_D A (ws.set q0 (o, .inl (cA, n, .inl (upd f j (vp_nar .char x))))) → va_S A H0 H1 locs1 → W p l e R s m args below meth c H1 locs1 cells slots Q (F0 m (pc + 1) ls rest)) : W p l e R s m args below meth c H locs cells slots Q (F0 m pc ls (.int x :: .int (nI j) :: .ref o :: rest)) := by
  refine va_cast hexec hb hK hP hD hS q0 1 ha ht (vp_in_nI hj hn) hdg ?_
  rw [nI_clamp (Nat.lt_trans hj hn)]
  exact kk
theorem b_zast {cl : List vw_C} {tys : List (ClassId × FieldType)} {ws : va_W} {o : Nat} (hexec : p.tables.exec = Jvm.exec) (hb : c.code = cc) (hK : va_K G cl tys s) (hP : va_P G cl ws H) (hD : va_D A ws) (hS : va_S A H0 H locs) (q0 : Nat) {cA : ClassId} {n : Nat} {f : Nat → Int32} (ha : ws[q0]? = some (o, .inl (cA, n, .inl f))) (ht : tys[2]? = some (cA, .boolean)) {j : Nat} {x : Int32} (hj : j < n) (hn : n < 2 ^ 31) (hdg : decode cc pc = .ok (.bastore, 1))
    (kk : ∀ (H1 : Heap) (locs1 : List Loc), va_P G cl (ws.set q0 (o, .inl (cA, n, .inl (upd f j (vp_nar .boolean x))))) H1 → va_D A (ws.set q0 (o, .inl (cA, n, .inl (upd f j (vp_nar .boolean x))))) → va_S A H0 H1 locs1 → W p l e R s m args below meth c H1 locs1 cells slots Q (F0 m (pc + 1) ls rest)) : W p l e R s m args below meth c H locs cells slots Q (F0 m pc ls (.int x :: .int (nI j) :: .ref o :: rest)) := by
  refine va_zast hexec hb hK hP hD hS q0 2 ha ht (vp_in_nI hj hn) hdg ?_
  rw [nI_clamp (Nat.lt_trans hj hn)]
  exact kk
end MYC
