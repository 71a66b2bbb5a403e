/-! constructors: they make cells; the table FIRST_SETTING is what the tables say -/
def nstF : Cond := .fieldLinkNest RX3 39 "PuddleMinistries" "FIRST_SETTING" "[I" "PuddleMinistries"
def fst4 (k : Nat) : Int32 := if k = 0 then 3 else if k = 1 then 2 else if k = 2 then 15 else 5
def SX (tF : Nat) (A : Nat → Prop) (U : State) : Prop := va_Nw nstF U ∧ va_AO "PuddleMinistries$Street" U ∧ va_Z "PuddleMinistries" "FIRST_SETTING" "[I" (.ref tF) A U U.heap ∧ va_T .int tF 4 (fun k => .int (fst4 k)) A U U.heap
theorem SX.calling {tF : Nat} {A : Nat → Prop} {U : State} (a : Array Value) (g : JFrame) (mk : MethodId) (h : SX tF A U) : SX tF A (U.calling g mk a) := by
  obtain ⟨h0, h1, h2, h3⟩ := h
  exact ⟨va_Nw.same rfl rfl h0, va_AO.moved (u := U) (U := U.calling g mk a) (Vm.Alike.refl U.vm) h1, va_Z.moved (u := U) (U := U.calling g mk a) (Vm.Alike.refl U.vm) h2, va_T.moved (u := U) (U := U.calling g mk a) (Vm.Alike.refl U.vm) h3⟩
theorem SX.sub {tF : Nat} {A B : Nat → Prop} {s : State} {G : va_G} {ca : Nat → ClassId} {H : Heap} {locs : List Loc} (hX : SX tF A s) (_ : EV G ca s) (hS : va_S A s.heap H locs) (hF : ∀ q, B q → A q) : ∀ U : State, U.heap = H → s.WarmedH U.vm → SX tF B U := by
  intro U hU hW
  obtain ⟨h0, h1, h2, h3⟩ := hX
  subst hU
  exact ⟨va_Nw.warmF hW h0, va_AO.moved hW.alike h1, ((h2.kept (fun a p q => hS.2.1 a p q)).narrow hF).moved hW.alike, ((h3.kept (fun a p q => hS.2.1 a p q)).narrow hF).moved hW.alike⟩
def pcX (G : va_G) (ca : Nat → ClassId) (tF : Nat) (Wd : va_W) (as : List Value) (sz : Nat) : Array Value → State → Prop := va_Pc as (fun U => U.heap.size = sz ∧ va_P G vwCl Wd U.heap ∧ EV G ca U ∧ va_D (fun _ => True) Wd ∧ SX tF (va_A Wd sz) U)
def CtC (l : Launch) (y : MethodName) (ws : List Cond) (rm : Room) (as : List Value) (G : va_G) (ca : Nat → ClassId) (tF : Nat) (Wd : va_W) (σ : Type) (good : σ → Prop) (post : σ → va_W) (mc ms : Nat) : Prop := ∀ sz : Nat, Met l y ws rm (pcX G ca tF Wd as sz) (va_Qv good (fun u t => va_P G vwCl (post u) t.heap ∧ va_D (va_A Wd sz) (post u)) (va_A Wd sz)) mc ms (va_A Wd sz)
theorem pcX_blind {G : va_G} {ca : Nat → ClassId} {tF : Nat} {Wd : va_W} {as : List Value} {sz : Nat} : FrameBlind (pcX G ca tF Wd as sz) := fun a _ g mk q => ⟨q.1, q.2.1, q.2.2.1, q.2.2.2.1.calling a g mk, q.2.2.2.2.1, q.2.2.2.2.2.calling a g mk⟩
theorem pcX_S {G : va_G} {ca : Nat → ClassId} {tF : Nat} {A : Nat → Prop} {Wd : va_W} {s : State} {H : Heap} {As : List Value} (hev : EV G ca s) (hP : va_P G vwCl Wd H) (hD : va_D A Wd) (hX : ∀ U : State, U.heap = H → s.WarmedH U.vm → SX tF (va_A Wd H.size) U) : PreS s H (pcX G ca tF Wd As H.size) As :=
  ⟨pcX_blind, fun U hU hW => ⟨rfl, by rw [hU], by rw [hU]; exact hP, hev.warm hW, hD.weaken (fun _ _ _ _ => trivial), hX U hU hW⟩⟩
theorem CtC.ofW {l : Launch} {y : MethodName} {ws ws' : List Cond} {rm : Room} {as : List Value} {G : va_G} {ca : Nat → ClassId} {tF : Nat} {Wd : va_W} {σ : Type} {good : σ → Prop} {post : σ → va_W} {mc ms : Nat} {cc : ByteArray} {maxL : Nat} (hy : plainName y.cls = true) (hw : ws = Cond.code y cc maxL none :: ws') (hlen : (lg_sl as).length ≤ maxL)
    (k : ∀ (p : Program) (e : Env) (s : State) (m : MethodId) (below : List Frame) (meth : Method) (c : Code) (A : Nat → Prop) (ls : Array Slot) (Q : State → Prop) (H : Heap), p.tables.exec = Jvm.exec → c.code = cc → c.maxLocals = maxL → (∀ w ∈ ws, w.before as.toArray s = true) → s.vm.findClass y.cls = some m.cls → EV G ca s → va_P G vwCl Wd H → va_D A Wd → (∀ q : Nat, s.heap.size ≤ q → A q) → va_S A s.heap H [] → lv_has ls maxL (lv_args 0 as) → meth.name = y.name → SX tF A s →
      (∀ (u : σ) (_ : good u) (H : Heap) (locs : List Loc) (pc : Nat) (ls' : Array Slot), va_P G vwCl (post u) H → va_D A (post u) → va_S A s.heap H locs → decode cc pc = .ok (.return_, 1) → W p l e rm s m as.toArray below meth c H locs mc ms Q (F0 m pc ls' [])) →
      W p l e rm s m as.toArray below meth c H [] 0 0 Q (F0 m 0 ls [])) : CtC l y ws rm as G ca tF Wd σ good post mc ms := by
  intro sz
  refine Met.ofW (cc := cc) (maxL := maxL) (ret := none) hy hw ?_
  intro p e s m args below meth c s₁ B hml hv
  obtain ⟨rfl, hsz, hP, hK, hD0, hX⟩ := hv
  have hlocks := B.notSynchronized
  have hr := B.returns
  subst hsz
  rw [lg_entry_eq]
  exact k p e s m below meth c (va_A Wd s.heap.size) _ _ s.heap B.exec B.bytes hml (atoms_spec (ws := ws) B.pre) (findClass_of_methodNamed B.named) hK hP (hD0.self (sz := s.heap.size)) (fun q h => Or.inr h) va_S.rf (lv_entry as hlen) (name_of_methodNamed B.named B.method).1 hX (fun u hg H locs pc ls' h1 h1d h2 h3 => W.vret B.exec B.bytes hr (fun t ht _ => ⟨⟨u, rfl, hg, by rw [← ht] at h1; exact ⟨h1, h1d⟩⟩, h2.F ht⟩) h2.2.2 h3 hlocks)
theorem D_new {G : va_G} {cl : List vw_C} {A : Nat → Prop} {L Wc R W1 : va_W} {H : Heap} (hP : va_P G cl (L ++ (Wc ++ R)) H) (hD : va_D A (L ++ (Wc ++ R))) (hF : ∀ q, va_A Wc H.size q → A q) (h1 : va_D (va_A Wc H.size) W1) : va_D A (L ++ (W1 ++ R)) := by
  have hl : ∀ (k : Nat) (q : Nat × va_E), L[k]? = some q → ¬ va_A Wc H.size q.1 := by
    intro k q hq z
    have hlt := (P_left hP k q hq).lt
    rcases z with ⟨j, e, hj⟩ | z
    · exact D_apart hD hq (left_at hj) rfl
    · omega
  have hr : ∀ (k : Nat) (q : Nat × va_E), R[k]? = some q → ¬ va_A Wc H.size q.1 := by
    intro k q hq z
    have hlt := (P_right (P_right hP) k q hq).lt
    rcases z with ⟨j, e, hj⟩ | z
    · exact D_apart (D_right hD) hj hq rfl
    · omega
  refine va_D.app (D_left hD) (va_D.app (h1.weaken (fun _ q _ h => hF q.1 h)) (D_right (D_right hD)) (fun i j x y hx hy e => hr j y hy (by rw [← e]; exact h1.2 i x hx))) (fun i j x y hx hy e => ?_)
  rcases List.mem_append.mp (List.mem_of_getElem? hy) with h | h
  · obtain ⟨k, hk⟩ := List.getElem?_of_mem h
    exact hl i x hx (by rw [e]; exact h1.2 k y hk)
  · obtain ⟨k, hk⟩ := List.getElem?_of_mem h
    exact D_apart hD hx (right_at hk) e
section MYN
variable {p : Program} {l : Launch} {e : Env} {R : Room} {s : State} {m : MethodId} {args : Array Value} {below : List Frame} {meth : Method} {c : Code} {H : Heap} {locs : List Loc} {cells slots : Nat} {Q : State → Prop}
variable {cc : ByteArray} {pc : Nat} {ls : Array Slot} {rest st0 : List Value} {a : Array Value} {A : Nat → Prop} {H0 : Heap} {G : va_G} {ca : Nat → ClassId} {Lw Wc Rw ws : va_W} {σ : Type} {good : σ → Prop} {post : σ → va_W} {mc ms : Nat}
theorem goC (hr : va_Run p l e R s m args below meth c H locs cells slots mc ms (F0 m pc ls st0) rest (va_Qv good (fun u t => va_P G vwCl (post u) t.heap ∧ va_D (va_A Wc H.size) (post u)) (va_A Wc H.size) a) (va_A Wc H.size)) (hP : va_P G vwCl (Lw ++ (Wc ++ Rw)) H) (hD : va_D A (Lw ++ (Wc ++ Rw))) (hS : va_S A H0 H locs) (hA : ∀ q : Nat, H0.size ≤ q → A q)
    (kk : ∀ (u : σ) (_ : good u) (H1 : Heap) (locs1 : List Loc), va_P G vwCl (Lw ++ (post u ++ Rw)) H1 → va_D A (Lw ++ (post u ++ Rw)) → va_S A H0 H1 locs1 → W p l e R s m args below meth c H1 locs1 (cells + mc) (slots + ms) Q (F0 m (pc + 3) ls rest)) : W p l e R s m args below meth c H locs cells slots Q (F0 m pc ls st0) := by
  have hF := A_mid hD hS hA
  refine va_callv hr hS (fun q _ h => hF q h) hF (fun u t H1 locs1 ht _ hw hB _ hk1 hS1 => ?_)
  obtain ⟨hB, hB2⟩ := hB
  rw [ht] at hB
  exact kk u hw H1 locs1 (P_mid hP hD hk1 hB) (D_new hP hD hF hB2) hS1
theorem ca_of {k : Nat} {cA : ClassId} {ty : FieldType} {G : va_G} {ca : Nat → ClassId} (hK : va_K G vwCl (TYS ca ++ [(cA, ty)]) s) (h : (TYS ca)[k]? = some (ca k, ty)) : cA = ca k := by
  have h1 := (hK.2 4 (cA, ty) rfl).2
  have h2 := (hK.2 k (ca k, ty) (left_at h)).2
  cases ty with
  | object C =>
    obtain ⟨_, _, _, _, _, e1⟩ := h1
    obtain ⟨_, _, _, _, _, e2⟩ := h2
    exact Option.some.inj (e1.symm.trans e2)
  | _ => exact Option.some.inj (h1.symm.trans h2)
theorem b_newi (hexec : p.tables.exec = Jvm.exec) (hb : c.code = cc) (harr : (Cond.arrayClass .int).before args s = true) (hev : EV G ca s) (hP : va_P G vwCl ws H) (hD : va_D A ws) (hS : va_S A H0 H locs) (hA : ∀ q, H0.size ≤ q → A q) {n : Int32} {N : Nat} (hn : ¬ n < 0) (hN : n.toNatClampNeg = N) (hbytes : N * 4 ≤ 536870912) (hcells : cells + 1 ≤ R.cells) (hslots : slots + N ≤ R.slots) (hdg : decode cc pc = .ok (.newarray .int, 2))
    (kk : ∀ (q : Nat) (H1 : Heap), va_P G vwCl (ws ++ [(q, .inl (ca 0, N, .inl (fun _ => 0)))]) H1 → va_D A (ws ++ [(q, .inl (ca 0, N, .inl (fun _ => 0)))]) → va_S A H0 H1 locs → W p l e R s m args below meth c H1 locs (cells + 1) (slots + N) Q (F0 m (pc + 2) ls (.ref q :: rest))) : W p l e R s m args below meth c H locs cells slots Q (F0 m pc ls (.int n :: rest)) := by
  refine va_newa (atype := .int) hexec hb harr rfl hev.1 hP hD hS hA (a0 := (N, .inl (fun _ => 0))) (fun cA => rfl) hn hN hbytes hcells hslots hdg (fun q cA H1 hK hP hD hS => ?_)
  obtain rfl := ca_of (k := 0) hK rfl
  exact kk q H1 hP hD hS
theorem b_newc (hexec : p.tables.exec = Jvm.exec) (hb : c.code = cc) (harr : (Cond.arrayClass .char).before args s = true) (hev : EV G ca s) (hP : va_P G vwCl ws H) (hD : va_D A ws) (hS : va_S A H0 H locs) (hA : ∀ q, H0.size ≤ q → A q) {n : Int32} {N : Nat} (hn : ¬ n < 0) (hN : n.toNatClampNeg = N) (hbytes : N * 2 ≤ 536870912) (hcells : cells + 1 ≤ R.cells) (hslots : slots + N ≤ R.slots) (hdg : decode cc pc = .ok (.newarray .char, 2))
    (kk : ∀ (q : Nat) (H1 : Heap), va_P G vwCl (ws ++ [(q, .inl (ca 1, N, .inl (fun _ => 0)))]) H1 → va_D A (ws ++ [(q, .inl (ca 1, N, .inl (fun _ => 0)))]) → va_S A H0 H1 locs → W p l e R s m args below meth c H1 locs (cells + 1) (slots + N) Q (F0 m (pc + 2) ls (.ref q :: rest))) : W p l e R s m args below meth c H locs cells slots Q (F0 m pc ls (.int n :: rest)) := by
  refine va_newa (atype := .char) hexec hb harr rfl hev.1 hP hD hS hA (a0 := (N, .inl (fun _ => 0))) (fun cA => rfl) hn hN hbytes hcells hslots hdg (fun q cA H1 hK hP hD hS => ?_)
  obtain rfl := ca_of (k := 1) hK rfl
  exact kk q H1 hP hD hS
theorem b_newz (hexec : p.tables.exec = Jvm.exec) (hb : c.code = cc) (harr : (Cond.arrayClass .boolean).before args s = true) (hev : EV G ca s) (hP : va_P G vwCl ws H) (hD : va_D A ws) (hS : va_S A H0 H locs) (hA : ∀ q, H0.size ≤ q → A q) {n : Int32} {N : Nat} (hn : ¬ n < 0) (hN : n.toNatClampNeg = N) (hbytes : N * 1 ≤ 536870912) (hcells : cells + 1 ≤ R.cells) (hslots : slots + N ≤ R.slots) (hdg : decode cc pc = .ok (.newarray .boolean, 2))
    (kk : ∀ (q : Nat) (H1 : Heap), va_P G vwCl (ws ++ [(q, .inl (ca 2, N, .inl (fun _ => 0)))]) H1 → va_D A (ws ++ [(q, .inl (ca 2, N, .inl (fun _ => 0)))]) → va_S A H0 H1 locs → W p l e R s m args below meth c H1 locs (cells + 1) (slots + N) Q (F0 m (pc + 2) ls (.ref q :: rest))) : W p l e R s m args below meth c H locs cells slots Q (F0 m pc ls (.int n :: rest)) := by
  refine va_newa (atype := .boolean) hexec hb harr rfl hev.1 hP hD hS hA (a0 := (N, .inl (fun _ => 0))) (fun cA => rfl) hn hN hbytes hcells hslots hdg (fun q cA H1 hK hP hD hS => ?_)
  obtain rfl := ca_of (k := 2) hK rfl
  exact kk q H1 hP hD hS
theorem b_newq (hexec : p.tables.exec = Jvm.exec) (hb : c.code = cc) {own : String} {index : Nat} (hown : s.vm.findClass own = some m.cls) (hclink : (Cond.classLink own index RX3).before args s = true) (hover : va_AO "PuddleMinistries$Street" s) (hev : EV G ca s) (hP : va_P G vwCl ws H) (hD : va_D A ws) (hS : va_S A H0 H locs) (hA : ∀ q, H0.size ≤ q → A q) {n : Int32} {N : Nat} (hn : ¬ n < 0) (hN : n.toNatClampNeg = N) (hbytes : N * 4 ≤ 536870912) (hcells : cells + 1 ≤ R.cells) (hslots : slots + N ≤ R.slots) (hdg : decode cc pc = .ok (.anewarray index, 3))
    (kk : ∀ (q : Nat) (H1 : Heap), va_P G vwCl (ws ++ [(q, .inl (ca 3, N, .inr (.inr (.inr (.inr (fun _ => none))))))]) H1 → va_D A (ws ++ [(q, .inl (ca 3, N, .inr (.inr (.inr (.inr (fun _ => none))))))]) → va_S A H0 H1 locs → W p l e R s m args below meth c H1 locs (cells + 1) (slots + N) Q (F0 m (pc + 3) ls (.ref q :: rest))) : W p l e R s m args below meth c H locs cells slots Q (F0 m pc ls (.int n :: rest)) := by
  refine va_newq hexec hb hown hclink hover hev.1 hP hD hS hA hn hN hbytes hcells hslots hdg (fun q cA H1 hK hP hD hS => ?_)
  obtain rfl := ca_of (k := 3) hK rfl
  exact kk q H1 hP hD hS
end MYN
def stL : Nat → (Nat → Int32) | 0 => fun _ => 0 | i + 1 => upd (stL i) i (fst4 i)
def brL : Nat → (Nat → Int32) | 0 => fun _ => 0 | i + 1 => upd (brL i) i 20
def S0c : SS := (stL 4, brL 12, fun _ => 0, fun _ => 0, fun _ => 0, fun _ => 0, fun _ => 0, fun _ => 0, fun _ => 0, 0, 0, 0, 0, 0, 0)
set_option maxHeartbeats 4000000 in
set_option maxRecDepth 100000 in
theorem c_X3_init (l : Launch) (G : va_G) (ca : Nat → ClassId) (tF : Nat) (h : Nat) : CtC l yX3_init wsX3_init ({ frames := 1, cells := 9, slots := 136, locals := 12 }) [.ref h] G ca tF ([(h, .inr (3, [.null, .null, .null, .null, .null, .null, .null, .null, .null, .int 0, .int 0, .int 0, .int 0, .int 0, .int 0]))]) (Nat → Nat) (fun u => True) (fun u => stT ca h u S0c) 9 136 := by
  refine CtC.ofW (cc := cX3_init) (maxL := 2) (by decide) rfl (Nat.le_of_ble_eq_true rfl) ?_
  intro pr en s m be me c A ls Q H hx hb hml hts hown hev hP hD hA hS hl hin hX hret
  have hown : s.vm.findClass RX3 = some m.cls := hown
  have hl : lv_has ls 2 [(0, .ref h)] := hl
  have hP : va_P G vwCl [(h, .inr (3, [.null, .null, .null, .null, .null, .null, .null, .null, .null, .int 0, .int 0, .int 0, .int 0, .int 0, .int 0]))] H := hP
  have hD : va_D A [(h, .inr (3, [.null, .null, .null, .null, .null, .null, .null, .null, .null, .int 0, .int 0, .int 0, .int 0, .int 0, .int 0]))] := hD
  have in_wsX30 : ∀ w ∈ wsX30, w ∈ wsX3_init := fun _ h => List.mem_cons_of_mem _ (List.mem_append_right _ h)
  refine lv_aload_n hx hb dX3_init_0 rfl (lv_at hl 0 rfl) ?_
  refine W.objInit hx hb hown (hts (.methodLink RX3 3 objectInit) (List.mem_of_getElem? (i := 1) rfl)) (hts (.instanceMethod objectInit) (List.mem_of_getElem? (i := 2) rfl)) (hts (.code objectInit ⟨#[0xb1]⟩ 1 none) (List.mem_of_getElem? (i := 3) rfl)) rfl (by rw [hml]; exact hl.1) rfl dX3_init_1 (Nat.le_of_ble_eq_true rfl) (Nat.le_of_ble_eq_true rfl) ?_
  refine W.eq (g2 := F0 m 4 ls []) rfl ?_
  refine lv_aload_n hx hb dX3_init_4 rfl (lv_at hl 0 rfl) ?_
  refine lv_iconst (v := nI 4) hx hb dX3_init_5 (by decide) ?_
  refine b_newi hx hb (hts (.arrayClass .int) (List.mem_of_getElem? (i := 4) rfl)) hev hP hD hS hA (N := 4) (by decide) (by decide) (by decide) (Nat.le_of_ble_eq_true rfl) (Nat.le_of_ble_eq_true rfl) dX3_init_6 (fun q1 H hP hD hS => ?_)
  have hP : va_P G vwCl ([(h, .inr (3, [.null, .null, .null, .null, .null, .null, .null, .null, .null, .int 0, .int 0, .int 0, .int 0, .int 0, .int 0])), (q1, .inl (ca 0, 4, .inl (fun _ => 0)))]) H := hP
  have hD : va_D A ([(h, .inr (3, [.null, .null, .null, .null, .null, .null, .null, .null, .null, .int 0, .int 0, .int 0, .int 0, .int 0, .int 0])), (q1, .inl (ca 0, 4, .inl (fun _ => 0)))]) := hD
  refine W.widen (k := 1) (n := 4) (by omega) (by omega) ?_
  refine va_putF (D := G) (ci := 3) (v := .ref q1) (ty := tyX3 0) (C := RX3) (T := TX3) (N := 15) hx hb hts in_wsX30 tyX3 tyX3_ok nmX3 hown hev.1 hP hD hS 0 rfl rfl 0 (by decide) (hts (.fieldLink RX3 9 "PuddleMinistries$Street" "settings" "[I") (List.mem_of_getElem? (i := 5) rfl)) (fun _ h9 => h9) rfl hin rfl (by decide +kernel) rfl rfl (Nat.le_of_ble_eq_true rfl) dX3_init_8 (fun H locs hP hD hS => ?_)
  have hP : va_P G vwCl ([(h, .inr (3, [.ref q1, .null, .null, .null, .null, .null, .null, .null, .null, .int 0, .int 0, .int 0, .int 0, .int 0, .int 0])), (q1, .inl (ca 0, 4, .inl (fun _ => 0)))]) H := hP
  have hD : va_D A ([(h, .inr (3, [.ref q1, .null, .null, .null, .null, .null, .null, .null, .null, .int 0, .int 0, .int 0, .int 0, .int 0, .int 0])), (q1, .inl (ca 0, 4, .inl (fun _ => 0)))]) := hD
  refine lv_aload_n hx hb dX3_init_11 rfl (lv_at hl 0 rfl) ?_
  refine lv_bipush (v := nI 12) hx hb dX3_init_12 (by decide) ?_
  refine b_newi hx hb (hts (.arrayClass .int) (List.mem_of_getElem? (i := 4) rfl)) hev hP hD hS hA (N := 12) (by decide) (by decide) (by decide) (Nat.le_of_ble_eq_true rfl) (Nat.le_of_ble_eq_true rfl) dX3_init_14 (fun q2 H hP hD hS => ?_)
  have hP : va_P G vwCl ([(h, .inr (3, [.ref q1, .null, .null, .null, .null, .null, .null, .null, .null, .int 0, .int 0, .int 0, .int 0, .int 0, .int 0])), (q1, .inl (ca 0, 4, .inl (fun _ => 0))), (q2, .inl (ca 0, 12, .inl (fun _ => 0)))]) H := hP
  have hD : va_D A ([(h, .inr (3, [.ref q1, .null, .null, .null, .null, .null, .null, .null, .null, .int 0, .int 0, .int 0, .int 0, .int 0, .int 0])), (q1, .inl (ca 0, 4, .inl (fun _ => 0))), (q2, .inl (ca 0, 12, .inl (fun _ => 0)))]) := hD
  refine W.widen (k := 2) (n := 16) (by omega) (by omega) ?_
  refine va_putF (D := G) (ci := 3) (v := .ref q2) (ty := tyX3 1) (C := RX3) (T := TX3) (N := 15) hx hb hts in_wsX30 tyX3 tyX3_ok nmX3 hown hev.1 hP hD hS 0 rfl rfl 1 (by decide) (hts (.fieldLink RX3 15 "PuddleMinistries$Street" "brims" "[I") (List.mem_of_getElem? (i := 6) rfl)) (fun _ h9 => h9) rfl hin rfl (by decide +kernel) rfl rfl (Nat.le_of_ble_eq_true rfl) dX3_init_16 (fun H locs hP hD hS => ?_)
  have hP : va_P G vwCl ([(h, .inr (3, [.ref q1, .ref q2, .null, .null, .null, .null, .null, .null, .null, .int 0, .int 0, .int 0, .int 0, .int 0, .int 0])), (q1, .inl (ca 0, 4, .inl (fun _ => 0))), (q2, .inl (ca 0, 12, .inl (fun _ => 0)))]) H := hP
  have hD : va_D A ([(h, .inr (3, [.ref q1, .ref q2, .null, .null, .null, .null, .null, .null, .null, .int 0, .int 0, .int 0, .int 0, .int 0, .int 0])), (q1, .inl (ca 0, 4, .inl (fun _ => 0))), (q2, .inl (ca 0, 12, .inl (fun _ => 0)))]) := hD
  refine lv_aload_n hx hb dX3_init_19 rfl (lv_at hl 0 rfl) ?_
  refine lv_bipush (v := nI 12) hx hb dX3_init_20 (by decide) ?_
  refine b_newi hx hb (hts (.arrayClass .int) (List.mem_of_getElem? (i := 4) rfl)) hev hP hD hS hA (N := 12) (by decide) (by decide) (by decide) (Nat.le_of_ble_eq_true rfl) (Nat.le_of_ble_eq_true rfl) dX3_init_22 (fun q3 H hP hD hS => ?_)
  have hP : va_P G vwCl ([(h, .inr (3, [.ref q1, .ref q2, .null, .null, .null, .null, .null, .null, .null, .int 0, .int 0, .int 0, .int 0, .int 0, .int 0])), (q1, .inl (ca 0, 4, .inl (fun _ => 0))), (q2, .inl (ca 0, 12, .inl (fun _ => 0))), (q3, .inl (ca 0, 12, .inl (fun _ => 0)))]) H := hP
  have hD : va_D A ([(h, .inr (3, [.ref q1, .ref q2, .null, .null, .null, .null, .null, .null, .null, .int 0, .int 0, .int 0, .int 0, .int 0, .int 0])), (q1, .inl (ca 0, 4, .inl (fun _ => 0))), (q2, .inl (ca 0, 12, .inl (fun _ => 0))), (q3, .inl (ca 0, 12, .inl (fun _ => 0)))]) := hD
  refine W.widen (k := 3) (n := 28) (by omega) (by omega) ?_
  refine va_putF (D := G) (ci := 3) (v := .ref q3) (ty := tyX3 2) (C := RX3) (T := TX3) (N := 15) hx hb hts in_wsX30 tyX3 tyX3_ok nmX3 hown hev.1 hP hD hS 0 rfl rfl 2 (by decide) (hts (.fieldLink RX3 18 "PuddleMinistries$Street" "waters" "[I") (List.mem_of_getElem? (i := 7) rfl)) (fun _ h9 => h9) rfl hin rfl (by decide +kernel) rfl rfl (Nat.le_of_ble_eq_true rfl) dX3_init_24 (fun H locs hP hD hS => ?_)
  have hP : va_P G vwCl ([(h, .inr (3, [.ref q1, .ref q2, .ref q3, .null, .null, .null, .null, .null, .null, .int 0, .int 0, .int 0, .int 0, .int 0, .int 0])), (q1, .inl (ca 0, 4, .inl (fun _ => 0))), (q2, .inl (ca 0, 12, .inl (fun _ => 0))), (q3, .inl (ca 0, 12, .inl (fun _ => 0)))]) H := hP
  have hD : va_D A ([(h, .inr (3, [.ref q1, .ref q2, .ref q3, .null, .null, .null, .null, .null, .null, .int 0, .int 0, .int 0, .int 0, .int 0, .int 0])), (q1, .inl (ca 0, 4, .inl (fun _ => 0))), (q2, .inl (ca 0, 12, .inl (fun _ => 0))), (q3, .inl (ca 0, 12, .inl (fun _ => 0)))]) := hD
  refine lv_aload_n hx hb dX3_init_27 rfl (lv_at hl 0 rfl) ?_
  refine lv_bipush (v := nI 12) hx hb dX3_init_28 (by decide) ?_
  refine b_newi hx hb (hts (.arrayClass .int) (List.mem_of_getElem? (i := 4) rfl)) hev hP hD hS hA (N := 12) (by decide) (by decide) (by decide) (Nat.le_of_ble_eq_true rfl) (Nat.le_of_ble_eq_true rfl) dX3_init_30 (fun q4 H hP hD hS => ?_)
  have hP : va_P G vwCl ([(h, .inr (3, [.ref q1, .ref q2, .ref q3, .null, .null, .null, .null, .null, .null, .int 0, .int 0, .int 0, .int 0, .int 0, .int 0])), (q1, .inl (ca 0, 4, .inl (fun _ => 0))), (q2, .inl (ca 0, 12, .inl (fun _ => 0))), (q3, .inl (ca 0, 12, .inl (fun _ => 0))), (q4, .inl (ca 0, 12, .inl (fun _ => 0)))]) H := hP
  have hD : va_D A ([(h, .inr (3, [.ref q1, .ref q2, .ref q3, .null, .null, .null, .null, .null, .null, .int 0, .int 0, .int 0, .int 0, .int 0, .int 0])), (q1, .inl (ca 0, 4, .inl (fun _ => 0))), (q2, .inl (ca 0, 12, .inl (fun _ => 0))), (q3, .inl (ca 0, 12, .inl (fun _ => 0))), (q4, .inl (ca 0, 12, .inl (fun _ => 0)))]) := hD
  refine W.widen (k := 4) (n := 40) (by omega) (by omega) ?_
  refine va_putF (D := G) (ci := 3) (v := .ref q4) (ty := tyX3 3) (C := RX3) (T := TX3) (N := 15) hx hb hts in_wsX30 tyX3 tyX3_ok nmX3 hown hev.1 hP hD hS 0 rfl rfl 3 (by decide) (hts (.fieldLink RX3 21 "PuddleMinistries$Street" "crossingsOf" "[I") (List.mem_of_getElem? (i := 8) rfl)) (fun _ h9 => h9) rfl hin rfl (by decide +kernel) rfl rfl (Nat.le_of_ble_eq_true rfl) dX3_init_32 (fun H locs hP hD hS => ?_)
  have hP : va_P G vwCl ([(h, .inr (3, [.ref q1, .ref q2, .ref q3, .ref q4, .null, .null, .null, .null, .null, .int 0, .int 0, .int 0, .int 0, .int 0, .int 0])), (q1, .inl (ca 0, 4, .inl (fun _ => 0))), (q2, .inl (ca 0, 12, .inl (fun _ => 0))), (q3, .inl (ca 0, 12, .inl (fun _ => 0))), (q4, .inl (ca 0, 12, .inl (fun _ => 0)))]) H := hP
  have hD : va_D A ([(h, .inr (3, [.ref q1, .ref q2, .ref q3, .ref q4, .null, .null, .null, .null, .null, .int 0, .int 0, .int 0, .int 0, .int 0, .int 0])), (q1, .inl (ca 0, 4, .inl (fun _ => 0))), (q2, .inl (ca 0, 12, .inl (fun _ => 0))), (q3, .inl (ca 0, 12, .inl (fun _ => 0))), (q4, .inl (ca 0, 12, .inl (fun _ => 0)))]) := hD
  refine lv_aload_n hx hb dX3_init_35 rfl (lv_at hl 0 rfl) ?_
  refine lv_bipush (v := nI 6) hx hb dX3_init_36 (by decide) ?_
  refine b_newi hx hb (hts (.arrayClass .int) (List.mem_of_getElem? (i := 4) rfl)) hev hP hD hS hA (N := 6) (by decide) (by decide) (by decide) (Nat.le_of_ble_eq_true rfl) (Nat.le_of_ble_eq_true rfl) dX3_init_38 (fun q5 H hP hD hS => ?_)
  have hP : va_P G vwCl ([(h, .inr (3, [.ref q1, .ref q2, .ref q3, .ref q4, .null, .null, .null, .null, .null, .int 0, .int 0, .int 0, .int 0, .int 0, .int 0])), (q1, .inl (ca 0, 4, .inl (fun _ => 0))), (q2, .inl (ca 0, 12, .inl (fun _ => 0))), (q3, .inl (ca 0, 12, .inl (fun _ => 0))), (q4, .inl (ca 0, 12, .inl (fun _ => 0))), (q5, .inl (ca 0, 6, .inl (fun _ => 0)))]) H := hP
  have hD : va_D A ([(h, .inr (3, [.ref q1, .ref q2, .ref q3, .ref q4, .null, .null, .null, .null, .null, .int 0, .int 0, .int 0, .int 0, .int 0, .int 0])), (q1, .inl (ca 0, 4, .inl (fun _ => 0))), (q2, .inl (ca 0, 12, .inl (fun _ => 0))), (q3, .inl (ca 0, 12, .inl (fun _ => 0))), (q4, .inl (ca 0, 12, .inl (fun _ => 0))), (q5, .inl (ca 0, 6, .inl (fun _ => 0)))]) := hD
  refine W.widen (k := 5) (n := 46) (by omega) (by omega) ?_
  refine va_putF (D := G) (ci := 3) (v := .ref q5) (ty := tyX3 4) (C := RX3) (T := TX3) (N := 15) hx hb hts in_wsX30 tyX3 tyX3_ok nmX3 hown hev.1 hP hD hS 0 rfl rfl 4 (by decide) (hts (.fieldLink RX3 24 "PuddleMinistries$Street" "shoesOf" "[I") (List.mem_of_getElem? (i := 9) rfl)) (fun _ h9 => h9) rfl hin rfl (by decide +kernel) rfl rfl (Nat.le_of_ble_eq_true rfl) dX3_init_40 (fun H locs hP hD hS => ?_)
  have hP : va_P G vwCl ([(h, .inr (3, [.ref q1, .ref q2, .ref q3, .ref q4, .ref q5, .null, .null, .null, .null, .int 0, .int 0, .int 0, .int 0, .int 0, .int 0])), (q1, .inl (ca 0, 4, .inl (fun _ => 0))), (q2, .inl (ca 0, 12, .inl (fun _ => 0))), (q3, .inl (ca 0, 12, .inl (fun _ => 0))), (q4, .inl (ca 0, 12, .inl (fun _ => 0))), (q5, .inl (ca 0, 6, .inl (fun _ => 0)))]) H := hP
  have hD : va_D A ([(h, .inr (3, [.ref q1, .ref q2, .ref q3, .ref q4, .ref q5, .null, .null, .null, .null, .int 0, .int 0, .int 0, .int 0, .int 0, .int 0])), (q1, .inl (ca 0, 4, .inl (fun _ => 0))), (q2, .inl (ca 0, 12, .inl (fun _ => 0))), (q3, .inl (ca 0, 12, .inl (fun _ => 0))), (q4, .inl (ca 0, 12, .inl (fun _ => 0))), (q5, .inl (ca 0, 6, .inl (fun _ => 0)))]) := hD
  refine lv_aload_n hx hb dX3_init_43 rfl (lv_at hl 0 rfl) ?_
  refine lv_bipush (v := nI 6) hx hb dX3_init_44 (by decide) ?_
  refine b_newi hx hb (hts (.arrayClass .int) (List.mem_of_getElem? (i := 4) rfl)) hev hP hD hS hA (N := 6) (by decide) (by decide) (by decide) (Nat.le_of_ble_eq_true rfl) (Nat.le_of_ble_eq_true rfl) dX3_init_46 (fun q6 H hP hD hS => ?_)
  have hP : va_P G vwCl ([(h, .inr (3, [.ref q1, .ref q2, .ref q3, .ref q4, .ref q5, .null, .null, .null, .null, .int 0, .int 0, .int 0, .int 0, .int 0, .int 0])), (q1, .inl (ca 0, 4, .inl (fun _ => 0))), (q2, .inl (ca 0, 12, .inl (fun _ => 0))), (q3, .inl (ca 0, 12, .inl (fun _ => 0))), (q4, .inl (ca 0, 12, .inl (fun _ => 0))), (q5, .inl (ca 0, 6, .inl (fun _ => 0))), (q6, .inl (ca 0, 6, .inl (fun _ => 0)))]) H := hP
  have hD : va_D A ([(h, .inr (3, [.ref q1, .ref q2, .ref q3, .ref q4, .ref q5, .null, .null, .null, .null, .int 0, .int 0, .int 0, .int 0, .int 0, .int 0])), (q1, .inl (ca 0, 4, .inl (fun _ => 0))), (q2, .inl (ca 0, 12, .inl (fun _ => 0))), (q3, .inl (ca 0, 12, .inl (fun _ => 0))), (q4, .inl (ca 0, 12, .inl (fun _ => 0))), (q5, .inl (ca 0, 6, .inl (fun _ => 0))), (q6, .inl (ca 0, 6, .inl (fun _ => 0)))]) := hD
  refine W.widen (k := 6) (n := 52) (by omega) (by omega) ?_
  refine va_putF (D := G) (ci := 3) (v := .ref q6) (ty := tyX3 5) (C := RX3) (T := TX3) (N := 15) hx hb hts in_wsX30 tyX3 tyX3_ok nmX3 hown hev.1 hP hD hS 0 rfl rfl 5 (by decide) (hts (.fieldLink RX3 27 "PuddleMinistries$Street" "owedBy" "[I") (List.mem_of_getElem? (i := 10) rfl)) (fun _ h9 => h9) rfl hin rfl (by decide +kernel) rfl rfl (Nat.le_of_ble_eq_true rfl) dX3_init_48 (fun H locs hP hD hS => ?_)
  have hP : va_P G vwCl ([(h, .inr (3, [.ref q1, .ref q2, .ref q3, .ref q4, .ref q5, .ref q6, .null, .null, .null, .int 0, .int 0, .int 0, .int 0, .int 0, .int 0])), (q1, .inl (ca 0, 4, .inl (fun _ => 0))), (q2, .inl (ca 0, 12, .inl (fun _ => 0))), (q3, .inl (ca 0, 12, .inl (fun _ => 0))), (q4, .inl (ca 0, 12, .inl (fun _ => 0))), (q5, .inl (ca 0, 6, .inl (fun _ => 0))), (q6, .inl (ca 0, 6, .inl (fun _ => 0)))]) H := hP
  have hD : va_D A ([(h, .inr (3, [.ref q1, .ref q2, .ref q3, .ref q4, .ref q5, .ref q6, .null, .null, .null, .int 0, .int 0, .int 0, .int 0, .int 0, .int 0])), (q1, .inl (ca 0, 4, .inl (fun _ => 0))), (q2, .inl (ca 0, 12, .inl (fun _ => 0))), (q3, .inl (ca 0, 12, .inl (fun _ => 0))), (q4, .inl (ca 0, 12, .inl (fun _ => 0))), (q5, .inl (ca 0, 6, .inl (fun _ => 0))), (q6, .inl (ca 0, 6, .inl (fun _ => 0)))]) := hD
  refine lv_aload_n hx hb dX3_init_51 rfl (lv_at hl 0 rfl) ?_
  refine lv_bipush (v := nI 6) hx hb dX3_init_52 (by decide) ?_
  refine b_newi hx hb (hts (.arrayClass .int) (List.mem_of_getElem? (i := 4) rfl)) hev hP hD hS hA (N := 6) (by decide) (by decide) (by decide) (Nat.le_of_ble_eq_true rfl) (Nat.le_of_ble_eq_true rfl) dX3_init_54 (fun q7 H hP hD hS => ?_)
  have hP : va_P G vwCl ([(h, .inr (3, [.ref q1, .ref q2, .ref q3, .ref q4, .ref q5, .ref q6, .null, .null, .null, .int 0, .int 0, .int 0, .int 0, .int 0, .int 0])), (q1, .inl (ca 0, 4, .inl (fun _ => 0))), (q2, .inl (ca 0, 12, .inl (fun _ => 0))), (q3, .inl (ca 0, 12, .inl (fun _ => 0))), (q4, .inl (ca 0, 12, .inl (fun _ => 0))), (q5, .inl (ca 0, 6, .inl (fun _ => 0))), (q6, .inl (ca 0, 6, .inl (fun _ => 0))), (q7, .inl (ca 0, 6, .inl (fun _ => 0)))]) H := hP
  have hD : va_D A ([(h, .inr (3, [.ref q1, .ref q2, .ref q3, .ref q4, .ref q5, .ref q6, .null, .null, .null, .int 0, .int 0, .int 0, .int 0, .int 0, .int 0])), (q1, .inl (ca 0, 4, .inl (fun _ => 0))), (q2, .inl (ca 0, 12, .inl (fun _ => 0))), (q3, .inl (ca 0, 12, .inl (fun _ => 0))), (q4, .inl (ca 0, 12, .inl (fun _ => 0))), (q5, .inl (ca 0, 6, .inl (fun _ => 0))), (q6, .inl (ca 0, 6, .inl (fun _ => 0))), (q7, .inl (ca 0, 6, .inl (fun _ => 0)))]) := hD
  refine W.widen (k := 7) (n := 58) (by omega) (by omega) ?_
  refine va_putF (D := G) (ci := 3) (v := .ref q7) (ty := tyX3 6) (C := RX3) (T := TX3) (N := 15) hx hb hts in_wsX30 tyX3 tyX3_ok nmX3 hown hev.1 hP hD hS 0 rfl rfl 6 (by decide) (hts (.fieldLink RX3 30 "PuddleMinistries$Street" "paidBy" "[I") (List.mem_of_getElem? (i := 11) rfl)) (fun _ h9 => h9) rfl hin rfl (by decide +kernel) rfl rfl (Nat.le_of_ble_eq_true rfl) dX3_init_56 (fun H locs hP hD hS => ?_)
  have hP : va_P G vwCl ([(h, .inr (3, [.ref q1, .ref q2, .ref q3, .ref q4, .ref q5, .ref q6, .ref q7, .null, .null, .int 0, .int 0, .int 0, .int 0, .int 0, .int 0])), (q1, .inl (ca 0, 4, .inl (fun _ => 0))), (q2, .inl (ca 0, 12, .inl (fun _ => 0))), (q3, .inl (ca 0, 12, .inl (fun _ => 0))), (q4, .inl (ca 0, 12, .inl (fun _ => 0))), (q5, .inl (ca 0, 6, .inl (fun _ => 0))), (q6, .inl (ca 0, 6, .inl (fun _ => 0))), (q7, .inl (ca 0, 6, .inl (fun _ => 0)))]) H := hP
  have hD : va_D A ([(h, .inr (3, [.ref q1, .ref q2, .ref q3, .ref q4, .ref q5, .ref q6, .ref q7, .null, .null, .int 0, .int 0, .int 0, .int 0, .int 0, .int 0])), (q1, .inl (ca 0, 4, .inl (fun _ => 0))), (q2, .inl (ca 0, 12, .inl (fun _ => 0))), (q3, .inl (ca 0, 12, .inl (fun _ => 0))), (q4, .inl (ca 0, 12, .inl (fun _ => 0))), (q5, .inl (ca 0, 6, .inl (fun _ => 0))), (q6, .inl (ca 0, 6, .inl (fun _ => 0))), (q7, .inl (ca 0, 6, .inl (fun _ => 0)))]) := hD
  refine lv_aload_n hx hb dX3_init_59 rfl (lv_at hl 0 rfl) ?_
  refine lv_bipush (v := nI 6) hx hb dX3_init_60 (by decide) ?_
  refine b_newi hx hb (hts (.arrayClass .int) (List.mem_of_getElem? (i := 4) rfl)) hev hP hD hS hA (N := 6) (by decide) (by decide) (by decide) (Nat.le_of_ble_eq_true rfl) (Nat.le_of_ble_eq_true rfl) dX3_init_62 (fun q8 H hP hD hS => ?_)
  have hP : va_P G vwCl ([(h, .inr (3, [.ref q1, .ref q2, .ref q3, .ref q4, .ref q5, .ref q6, .ref q7, .null, .null, .int 0, .int 0, .int 0, .int 0, .int 0, .int 0])), (q1, .inl (ca 0, 4, .inl (fun _ => 0))), (q2, .inl (ca 0, 12, .inl (fun _ => 0))), (q3, .inl (ca 0, 12, .inl (fun _ => 0))), (q4, .inl (ca 0, 12, .inl (fun _ => 0))), (q5, .inl (ca 0, 6, .inl (fun _ => 0))), (q6, .inl (ca 0, 6, .inl (fun _ => 0))), (q7, .inl (ca 0, 6, .inl (fun _ => 0))), (q8, .inl (ca 0, 6, .inl (fun _ => 0)))]) H := hP
  have hD : va_D A ([(h, .inr (3, [.ref q1, .ref q2, .ref q3, .ref q4, .ref q5, .ref q6, .ref q7, .null, .null, .int 0, .int 0, .int 0, .int 0, .int 0, .int 0])), (q1, .inl (ca 0, 4, .inl (fun _ => 0))), (q2, .inl (ca 0, 12, .inl (fun _ => 0))), (q3, .inl (ca 0, 12, .inl (fun _ => 0))), (q4, .inl (ca 0, 12, .inl (fun _ => 0))), (q5, .inl (ca 0, 6, .inl (fun _ => 0))), (q6, .inl (ca 0, 6, .inl (fun _ => 0))), (q7, .inl (ca 0, 6, .inl (fun _ => 0))), (q8, .inl (ca 0, 6, .inl (fun _ => 0)))]) := hD
  refine W.widen (k := 8) (n := 64) (by omega) (by omega) ?_
  refine va_putF (D := G) (ci := 3) (v := .ref q8) (ty := tyX3 7) (C := RX3) (T := TX3) (N := 15) hx hb hts in_wsX30 tyX3 tyX3_ok nmX3 hown hev.1 hP hD hS 0 rfl rfl 7 (by decide) (hts (.fieldLink RX3 33 "PuddleMinistries$Street" "crossedBy" "[I") (List.mem_of_getElem? (i := 12) rfl)) (fun _ h9 => h9) rfl hin rfl (by decide +kernel) rfl rfl (Nat.le_of_ble_eq_true rfl) dX3_init_64 (fun H locs hP hD hS => ?_)
  have hP : va_P G vwCl ([(h, .inr (3, [.ref q1, .ref q2, .ref q3, .ref q4, .ref q5, .ref q6, .ref q7, .ref q8, .null, .int 0, .int 0, .int 0, .int 0, .int 0, .int 0])), (q1, .inl (ca 0, 4, .inl (fun _ => 0))), (q2, .inl (ca 0, 12, .inl (fun _ => 0))), (q3, .inl (ca 0, 12, .inl (fun _ => 0))), (q4, .inl (ca 0, 12, .inl (fun _ => 0))), (q5, .inl (ca 0, 6, .inl (fun _ => 0))), (q6, .inl (ca 0, 6, .inl (fun _ => 0))), (q7, .inl (ca 0, 6, .inl (fun _ => 0))), (q8, .inl (ca 0, 6, .inl (fun _ => 0)))]) H := hP
  have hD : va_D A ([(h, .inr (3, [.ref q1, .ref q2, .ref q3, .ref q4, .ref q5, .ref q6, .ref q7, .ref q8, .null, .int 0, .int 0, .int 0, .int 0, .int 0, .int 0])), (q1, .inl (ca 0, 4, .inl (fun _ => 0))), (q2, .inl (ca 0, 12, .inl (fun _ => 0))), (q3, .inl (ca 0, 12, .inl (fun _ => 0))), (q4, .inl (ca 0, 12, .inl (fun _ => 0))), (q5, .inl (ca 0, 6, .inl (fun _ => 0))), (q6, .inl (ca 0, 6, .inl (fun _ => 0))), (q7, .inl (ca 0, 6, .inl (fun _ => 0))), (q8, .inl (ca 0, 6, .inl (fun _ => 0)))]) := hD
  refine lv_aload_n hx hb dX3_init_67 rfl (lv_at hl 0 rfl) ?_
  refine lv_bipush (v := nI 72) hx hb dX3_init_68 (by decide) ?_
  refine b_newi hx hb (hts (.arrayClass .int) (List.mem_of_getElem? (i := 4) rfl)) hev hP hD hS hA (N := 72) (by decide) (by decide) (by decide) (Nat.le_of_ble_eq_true rfl) (Nat.le_of_ble_eq_true rfl) dX3_init_70 (fun q9 H hP hD hS => ?_)
  have hP : va_P G vwCl ([(h, .inr (3, [.ref q1, .ref q2, .ref q3, .ref q4, .ref q5, .ref q6, .ref q7, .ref q8, .null, .int 0, .int 0, .int 0, .int 0, .int 0, .int 0])), (q1, .inl (ca 0, 4, .inl (fun _ => 0))), (q2, .inl (ca 0, 12, .inl (fun _ => 0))), (q3, .inl (ca 0, 12, .inl (fun _ => 0))), (q4, .inl (ca 0, 12, .inl (fun _ => 0))), (q5, .inl (ca 0, 6, .inl (fun _ => 0))), (q6, .inl (ca 0, 6, .inl (fun _ => 0))), (q7, .inl (ca 0, 6, .inl (fun _ => 0))), (q8, .inl (ca 0, 6, .inl (fun _ => 0))), (q9, .inl (ca 0, 72, .inl (fun _ => 0)))]) H := hP
  have hD : va_D A ([(h, .inr (3, [.ref q1, .ref q2, .ref q3, .ref q4, .ref q5, .ref q6, .ref q7, .ref q8, .null, .int 0, .int 0, .int 0, .int 0, .int 0, .int 0])), (q1, .inl (ca 0, 4, .inl (fun _ => 0))), (q2, .inl (ca 0, 12, .inl (fun _ => 0))), (q3, .inl (ca 0, 12, .inl (fun _ => 0))), (q4, .inl (ca 0, 12, .inl (fun _ => 0))), (q5, .inl (ca 0, 6, .inl (fun _ => 0))), (q6, .inl (ca 0, 6, .inl (fun _ => 0))), (q7, .inl (ca 0, 6, .inl (fun _ => 0))), (q8, .inl (ca 0, 6, .inl (fun _ => 0))), (q9, .inl (ca 0, 72, .inl (fun _ => 0)))]) := hD
  refine W.widen (k := 9) (n := 136) (by omega) (by omega) ?_
  refine va_putF (D := G) (ci := 3) (v := .ref q9) (ty := tyX3 8) (C := RX3) (T := TX3) (N := 15) hx hb hts in_wsX30 tyX3 tyX3_ok nmX3 hown hev.1 hP hD hS 0 rfl rfl 8 (by decide) (hts (.fieldLink RX3 36 "PuddleMinistries$Street" "permitDays" "[I") (List.mem_of_getElem? (i := 13) rfl)) (fun _ h9 => h9) rfl hin rfl (by decide +kernel) rfl rfl (Nat.le_of_ble_eq_true rfl) dX3_init_72 (fun H locs hP hD hS => ?_)
  have hP : va_P G vwCl ([(h, .inr (3, [.ref q1, .ref q2, .ref q3, .ref q4, .ref q5, .ref q6, .ref q7, .ref q8, .ref q9, .int 0, .int 0, .int 0, .int 0, .int 0, .int 0])), (q1, .inl (ca 0, 4, .inl (fun _ => 0))), (q2, .inl (ca 0, 12, .inl (fun _ => 0))), (q3, .inl (ca 0, 12, .inl (fun _ => 0))), (q4, .inl (ca 0, 12, .inl (fun _ => 0))), (q5, .inl (ca 0, 6, .inl (fun _ => 0))), (q6, .inl (ca 0, 6, .inl (fun _ => 0))), (q7, .inl (ca 0, 6, .inl (fun _ => 0))), (q8, .inl (ca 0, 6, .inl (fun _ => 0))), (q9, .inl (ca 0, 72, .inl (fun _ => 0)))]) H := hP
  have hD : va_D A ([(h, .inr (3, [.ref q1, .ref q2, .ref q3, .ref q4, .ref q5, .ref q6, .ref q7, .ref q8, .ref q9, .int 0, .int 0, .int 0, .int 0, .int 0, .int 0])), (q1, .inl (ca 0, 4, .inl (fun _ => 0))), (q2, .inl (ca 0, 12, .inl (fun _ => 0))), (q3, .inl (ca 0, 12, .inl (fun _ => 0))), (q4, .inl (ca 0, 12, .inl (fun _ => 0))), (q5, .inl (ca 0, 6, .inl (fun _ => 0))), (q6, .inl (ca 0, 6, .inl (fun _ => 0))), (q7, .inl (ca 0, 6, .inl (fun _ => 0))), (q8, .inl (ca 0, 6, .inl (fun _ => 0))), (q9, .inl (ca 0, 72, .inl (fun _ => 0)))]) := hD
  refine lv_iconst (v := nI 0) hx hb dX3_init_75 (by decide) ?_
  refine lv_istore_n (lv' := [(1, .int (nI 0)), (0, .ref h)]) hx hb dX3_init_76 rfl hl (by decide) rfl (fun ls hl => ?_)
  have loop_77 : ∀ (fu i : Nat), i + fu = 4 → ∀ (H : Heap) (locs : List Loc) (ls : Array Slot), va_P G vwCl ([(h, .inr (3, [.ref q1, .ref q2, .ref q3, .ref q4, .ref q5, .ref q6, .ref q7, .ref q8, .ref q9, .int 0, .int 0, .int 0, .int 0, .int 0, .int 0])), (q1, .inl (ca 0, 4, .inl (stL i))), (q2, .inl (ca 0, 12, .inl (fun _ => 0))), (q3, .inl (ca 0, 12, .inl (fun _ => 0))), (q4, .inl (ca 0, 12, .inl (fun _ => 0))), (q5, .inl (ca 0, 6, .inl (fun _ => 0))), (q6, .inl (ca 0, 6, .inl (fun _ => 0))), (q7, .inl (ca 0, 6, .inl (fun _ => 0))), (q8, .inl (ca 0, 6, .inl (fun _ => 0))), (q9, .inl (ca 0, 72, .inl (fun _ => 0)))]) H → va_D A ([(h, .inr (3, [.ref q1, .ref q2, .ref q3, .ref q4, .ref q5, .ref q6, .ref q7, .ref q8, .ref q9, .int 0, .int 0, .int 0, .int 0, .int 0, .int 0])), (q1, .inl (ca 0, 4, .inl (stL i))), (q2, .inl (ca 0, 12, .inl (fun _ => 0))), (q3, .inl (ca 0, 12, .inl (fun _ => 0))), (q4, .inl (ca 0, 12, .inl (fun _ => 0))), (q5, .inl (ca 0, 6, .inl (fun _ => 0))), (q6, .inl (ca 0, 6, .inl (fun _ => 0))), (q7, .inl (ca 0, 6, .inl (fun _ => 0))), (q8, .inl (ca 0, 6, .inl (fun _ => 0))), (q9, .inl (ca 0, 72, .inl (fun _ => 0)))]) → va_S A s.heap H locs → lv_has ls 2 [(0, .ref h), (1, .int (nI i))] → W pr l en ({ frames := 1, cells := 9, slots := 136, locals := 12 } : Room) s m ([.ref h] : List Value).toArray be me c H locs 9 136 Q (F0 m 77 ls []) := by
    intro fu
    induction fu with
    | zero =>
      intro i hi H locs ls hP hD hS hl
      obtain rfl : i = 4 := by omega
      refine lv_iload_n hx hb dX3_init_77 rfl (lv_at hl 1 rfl) ?_
      refine lv_iconst (v := nI 4) hx hb dX3_init_78 (by decide) ?_
      refine lv_icmp_ge (tgt := 99) hx hb dX3_init_79 (by decide) (fun c_1 => ?_) (fun c_1 => ?_)
      · skip
        refine lv_iconst (v := nI 0) hx hb dX3_init_99 (by decide) ?_
        refine lv_istore_n (lv' := [(1, .int (nI 0)), (0, .ref h)]) hx hb dX3_init_100 rfl hl (by decide) rfl (fun ls hl => ?_)
        have loop_101 : ∀ (fu i : Nat), i + fu = 12 → ∀ (H : Heap) (locs : List Loc) (ls : Array Slot), va_P G vwCl ([(h, .inr (3, [.ref q1, .ref q2, .ref q3, .ref q4, .ref q5, .ref q6, .ref q7, .ref q8, .ref q9, .int 0, .int 0, .int 0, .int 0, .int 0, .int 0])), (q1, .inl (ca 0, 4, .inl (stL 4))), (q2, .inl (ca 0, 12, .inl (brL i))), (q3, .inl (ca 0, 12, .inl (fun _ => 0))), (q4, .inl (ca 0, 12, .inl (fun _ => 0))), (q5, .inl (ca 0, 6, .inl (fun _ => 0))), (q6, .inl (ca 0, 6, .inl (fun _ => 0))), (q7, .inl (ca 0, 6, .inl (fun _ => 0))), (q8, .inl (ca 0, 6, .inl (fun _ => 0))), (q9, .inl (ca 0, 72, .inl (fun _ => 0)))]) H → va_D A ([(h, .inr (3, [.ref q1, .ref q2, .ref q3, .ref q4, .ref q5, .ref q6, .ref q7, .ref q8, .ref q9, .int 0, .int 0, .int 0, .int 0, .int 0, .int 0])), (q1, .inl (ca 0, 4, .inl (stL 4))), (q2, .inl (ca 0, 12, .inl (brL i))), (q3, .inl (ca 0, 12, .inl (fun _ => 0))), (q4, .inl (ca 0, 12, .inl (fun _ => 0))), (q5, .inl (ca 0, 6, .inl (fun _ => 0))), (q6, .inl (ca 0, 6, .inl (fun _ => 0))), (q7, .inl (ca 0, 6, .inl (fun _ => 0))), (q8, .inl (ca 0, 6, .inl (fun _ => 0))), (q9, .inl (ca 0, 72, .inl (fun _ => 0)))]) → va_S A s.heap H locs → lv_has ls 2 [(0, .ref h), (1, .int (nI i))] → W pr l en ({ frames := 1, cells := 9, slots := 136, locals := 12 } : Room) s m ([.ref h] : List Value).toArray be me c H locs 9 136 Q (F0 m 101 ls []) := by
          intro fu
          induction fu with
          | zero =>
            intro i hi H locs ls hP hD hS hl
            obtain rfl : i = 12 := by omega
            refine lv_iload_n hx hb dX3_init_101 rfl (lv_at hl 1 rfl) ?_
            refine lv_bipush (v := nI 12) hx hb dX3_init_102 (by decide) ?_
            refine lv_icmp_ge (tgt := 121) hx hb dX3_init_104 (by decide) (fun c_2 => ?_) (fun c_2 => ?_)
            · skip
              exact hret (fun j => [q1, q2, q3, q4, q5, q6, q7, q8, q9].getD j 0) trivial _ _ _ _ hP hD hS dX3_init_121
            · skip
              exact absurd (nI_le (by omega) (by omega)) c_2
          | succ fu ih =>
            intro i hi H locs ls hP hD hS hl
            have hlt : i < 12 := by omega
            refine lv_iload_n hx hb dX3_init_101 rfl (lv_at hl 1 rfl) ?_
            refine lv_bipush (v := nI 12) hx hb dX3_init_102 (by decide) ?_
            refine lv_icmp_ge (tgt := 121) hx hb dX3_init_104 (by decide) (fun c_3 => ?_) (fun c_3 => ?_)
            · skip
              exact absurd c_3 (nI_ge (by omega) (by omega))
            · skip
              refine lv_aload_n hx hb dX3_init_107 rfl (lv_at hl 0 rfl) ?_
              refine va_get (D := G) (ci := 3) (v := .ref q2) (C := RX3) (T := TX3) (N := 15) hx hb hts in_wsX30 hown hev.1 hP 0 rfl rfl 1 (by decide) (hts (.fieldLink RX3 15 "PuddleMinistries$Street" "brims" "[I") (List.mem_of_getElem? (i := 6) rfl)) (fun _ h9 => h9) rfl dX3_init_108 ?_
              refine lv_iload_n hx hb dX3_init_111 rfl (lv_at hl 1 rfl) ?_
              refine lv_bipush (v := 20) hx hb dX3_init_112 (by decide) ?_
              refine b_iast hx hb hev.1 hP hD hS 2 rfl rfl (j := i) (by omega) (by decide) dX3_init_114 (fun H locs hP hD hS => ?_)
              have hP : va_P G vwCl ([(h, .inr (3, [.ref q1, .ref q2, .ref q3, .ref q4, .ref q5, .ref q6, .ref q7, .ref q8, .ref q9, .int 0, .int 0, .int 0, .int 0, .int 0, .int 0])), (q1, .inl (ca 0, 4, .inl (stL 4))), (q2, .inl (ca 0, 12, .inl (upd (brL i) i 20))), (q3, .inl (ca 0, 12, .inl (fun _ => 0))), (q4, .inl (ca 0, 12, .inl (fun _ => 0))), (q5, .inl (ca 0, 6, .inl (fun _ => 0))), (q6, .inl (ca 0, 6, .inl (fun _ => 0))), (q7, .inl (ca 0, 6, .inl (fun _ => 0))), (q8, .inl (ca 0, 6, .inl (fun _ => 0))), (q9, .inl (ca 0, 72, .inl (fun _ => 0)))]) H := hP
              have hD : va_D A ([(h, .inr (3, [.ref q1, .ref q2, .ref q3, .ref q4, .ref q5, .ref q6, .ref q7, .ref q8, .ref q9, .int 0, .int 0, .int 0, .int 0, .int 0, .int 0])), (q1, .inl (ca 0, 4, .inl (stL 4))), (q2, .inl (ca 0, 12, .inl (upd (brL i) i 20))), (q3, .inl (ca 0, 12, .inl (fun _ => 0))), (q4, .inl (ca 0, 12, .inl (fun _ => 0))), (q5, .inl (ca 0, 6, .inl (fun _ => 0))), (q6, .inl (ca 0, 6, .inl (fun _ => 0))), (q7, .inl (ca 0, 6, .inl (fun _ => 0))), (q8, .inl (ca 0, 6, .inl (fun _ => 0))), (q9, .inl (ca 0, 72, .inl (fun _ => 0)))]) := hD
              refine lv_iinc (v := nI (i + 1)) (lv' := [(1, .int (nI (i + 1))), (0, .ref h)]) hx hb dX3_init_115 hl (k := 1) rfl (nI_1 _) (by decide) rfl (fun ls hl => ?_)
              refine lv_goto (tgt := 101) hx hb dX3_init_118 (by decide) ?_
              exact ih (i + 1) (by omega) _ _ _ (by rw [show (brL (i + 1)) = (upd (brL i) i 20) from by rfl]; exact hP) (D_of hD rfl) hS (lv_sub hl [1, 0] rfl)
        exact loop_101 12 0 (by omega) _ _ _ (by rw [show (brL 0) = (fun _ => 0) from by rfl]; exact hP) (D_of hD rfl) hS (lv_sub hl [1, 0] rfl)
      · skip
        exact absurd (nI_le (by omega) (by omega)) c_1
    | succ fu ih =>
      intro i hi H locs ls hP hD hS hl
      have hlt : i < 4 := by omega
      refine lv_iload_n hx hb dX3_init_77 rfl (lv_at hl 1 rfl) ?_
      refine lv_iconst (v := nI 4) hx hb dX3_init_78 (by decide) ?_
      refine lv_icmp_ge (tgt := 99) hx hb dX3_init_79 (by decide) (fun c_4 => ?_) (fun c_4 => ?_)
      · skip
        exact absurd c_4 (nI_ge (by omega) (by omega))
      · skip
        refine lv_aload_n hx hb dX3_init_82 rfl (lv_at hl 0 rfl) ?_
        refine va_get (D := G) (ci := 3) (v := .ref q1) (C := RX3) (T := TX3) (N := 15) hx hb hts in_wsX30 hown hev.1 hP 0 rfl rfl 0 (by decide) (hts (.fieldLink RX3 9 "PuddleMinistries$Street" "settings" "[I") (List.mem_of_getElem? (i := 5) rfl)) (fun _ h9 => h9) rfl dX3_init_83 ?_
        refine lv_iload_n hx hb dX3_init_86 rfl (lv_at hl 1 rfl) ?_
        refine va_getsN hx hb hX.2.2.1 hS hown (va_Nw.use rfl hX.1) (fun _ h9 => h9) dX3_init_87 ?_
        refine lv_iload_n hx hb dX3_init_90 rfl (lv_at hl 1 rfl) ?_
        refine va_ti hx hb hX.2.2.2 hS (vp_in_nI (n := i) (by omega) (by decide)) (v := .int (fst4 i)) (by rw [nI_clamp (by omega)]) dX3_init_91 ?_
        refine b_iast hx hb hev.1 hP hD hS 1 rfl rfl (j := i) (by omega) (by decide) dX3_init_92 (fun H locs hP hD hS => ?_)
        have hP : va_P G vwCl ([(h, .inr (3, [.ref q1, .ref q2, .ref q3, .ref q4, .ref q5, .ref q6, .ref q7, .ref q8, .ref q9, .int 0, .int 0, .int 0, .int 0, .int 0, .int 0])), (q1, .inl (ca 0, 4, .inl (upd (stL i) i (fst4 i)))), (q2, .inl (ca 0, 12, .inl (fun _ => 0))), (q3, .inl (ca 0, 12, .inl (fun _ => 0))), (q4, .inl (ca 0, 12, .inl (fun _ => 0))), (q5, .inl (ca 0, 6, .inl (fun _ => 0))), (q6, .inl (ca 0, 6, .inl (fun _ => 0))), (q7, .inl (ca 0, 6, .inl (fun _ => 0))), (q8, .inl (ca 0, 6, .inl (fun _ => 0))), (q9, .inl (ca 0, 72, .inl (fun _ => 0)))]) H := hP
        have hD : va_D A ([(h, .inr (3, [.ref q1, .ref q2, .ref q3, .ref q4, .ref q5, .ref q6, .ref q7, .ref q8, .ref q9, .int 0, .int 0, .int 0, .int 0, .int 0, .int 0])), (q1, .inl (ca 0, 4, .inl (upd (stL i) i (fst4 i)))), (q2, .inl (ca 0, 12, .inl (fun _ => 0))), (q3, .inl (ca 0, 12, .inl (fun _ => 0))), (q4, .inl (ca 0, 12, .inl (fun _ => 0))), (q5, .inl (ca 0, 6, .inl (fun _ => 0))), (q6, .inl (ca 0, 6, .inl (fun _ => 0))), (q7, .inl (ca 0, 6, .inl (fun _ => 0))), (q8, .inl (ca 0, 6, .inl (fun _ => 0))), (q9, .inl (ca 0, 72, .inl (fun _ => 0)))]) := hD
        refine lv_iinc (v := nI (i + 1)) (lv' := [(1, .int (nI (i + 1))), (0, .ref h)]) hx hb dX3_init_93 hl (k := 1) rfl (nI_1 _) (by decide) rfl (fun ls hl => ?_)
        refine lv_goto (tgt := 77) hx hb dX3_init_96 (by decide) ?_
        exact ih (i + 1) (by omega) _ _ _ (by rw [show (stL (i + 1)) = (upd (stL i) i (fst4 i)) from by rfl]; exact hP) (D_of hD rfl) hS (lv_sub hl [1, 0] rfl)
  exact loop_77 4 0 (by omega) _ _ _ (by rw [show (stL 0) = (fun _ => 0) from by rfl]; exact hP) (D_of hD rfl) hS (lv_sub hl [1, 0] rfl)
set_option maxHeartbeats 4000000 in
set_option maxRecDepth 100000 in
theorem c_X1_init (l : Launch) (G : va_G) (ca : Nat → ClassId) (tF : Nat) (h : Nat) : CtC l yX1_init wsX1_init ({ frames := 1, cells := 1, slots := 60, locals := 12 }) [.ref h] G ca tF ([(h, .inr (1, [.null, .int 0]))]) (Nat) (fun u => True) (fun u => paT ca h u (fun _ => 0, nI 0)) 1 60 := by
  refine CtC.ofW (cc := cX1_init) (maxL := 1) (by decide) rfl (Nat.le_of_ble_eq_true rfl) ?_
  intro pr en s m be me c A ls Q H hx hb hml hts hown hev hP hD hA hS hl hin hX hret
  have hown : s.vm.findClass RX1 = some m.cls := hown
  have hl : lv_has ls 1 [(0, .ref h)] := hl
  have hP : va_P G vwCl [(h, .inr (1, [.null, .int 0]))] H := hP
  have hD : va_D A [(h, .inr (1, [.null, .int 0]))] := hD
  have in_wsX10 : ∀ w ∈ wsX10, w ∈ wsX1_init := fun _ h => List.mem_cons_of_mem _ (List.mem_append_right _ h)
  refine lv_aload_n hx hb dX1_init_0 rfl (lv_at hl 0 rfl) ?_
  refine W.objInit hx hb hown (hts (.methodLink RX1 3 objectInit) (List.mem_of_getElem? (i := 1) rfl)) (hts (.instanceMethod objectInit) (List.mem_of_getElem? (i := 2) rfl)) (hts (.code objectInit ⟨#[0xb1]⟩ 1 none) (List.mem_of_getElem? (i := 3) rfl)) rfl (by rw [hml]; exact hl.1) rfl dX1_init_1 (Nat.le_of_ble_eq_true rfl) (Nat.le_of_ble_eq_true rfl) ?_
  refine W.eq (g2 := F0 m 4 ls []) rfl ?_
  refine lv_aload_n hx hb dX1_init_4 rfl (lv_at hl 0 rfl) ?_
  refine lv_bipush (v := nI 60) hx hb dX1_init_5 (by decide) ?_
  refine b_newc hx hb (hts (.arrayClass .char) (List.mem_of_getElem? (i := 4) rfl)) hev hP hD hS hA (N := 60) (by decide) (by decide) (by decide) (Nat.le_of_ble_eq_true rfl) (Nat.le_of_ble_eq_true rfl) dX1_init_7 (fun q1 H hP hD hS => ?_)
  have hP : va_P G vwCl ([(h, .inr (1, [.null, .int 0])), (q1, .inl (ca 1, 60, .inl (fun _ => 0)))]) H := hP
  have hD : va_D A ([(h, .inr (1, [.null, .int 0])), (q1, .inl (ca 1, 60, .inl (fun _ => 0)))]) := hD
  refine W.widen (k := 1) (n := 60) (by omega) (by omega) ?_
  refine va_putF (D := G) (ci := 1) (v := .ref q1) (ty := tyX1 0) (C := RX1) (T := TX1) (N := 2) hx hb hts in_wsX10 tyX1 tyX1_ok nmX1 hown hev.1 hP hD hS 0 rfl rfl 0 (by decide) (hts (.fieldLink RX1 11 "PuddleMinistries$Pad" "signs" "[C") (List.mem_of_getElem? (i := 5) rfl)) (fun _ h9 => h9) rfl hin rfl (by decide +kernel) rfl rfl (Nat.le_of_ble_eq_true rfl) dX1_init_9 (fun H locs hP hD hS => ?_)
  have hP : va_P G vwCl ([(h, .inr (1, [.ref q1, .int 0])), (q1, .inl (ca 1, 60, .inl (fun _ => 0)))]) H := hP
  have hD : va_D A ([(h, .inr (1, [.ref q1, .int 0])), (q1, .inl (ca 1, 60, .inl (fun _ => 0)))]) := hD
  exact hret q1 trivial _ _ _ _ hP hD hS dX1_init_12
