/-! calls out of the law's helpers: of the class, of one another -/
section HLP
variable {p : Program} {l : Launch} {e : Env} {R : Room} {s : State} {m : MethodId} {args : Array Value} {below : List Frame} {meth : Method} {c : Code} {H : Heap} {locs : List Loc} {cells slots : Nat} {Q : State → Prop}
variable {cc : ByteArray} {pc : Nat} {ls : Array Slot} {st st0 : List Value} {Ap : Nat → Prop} {G : va_G} {ca : Nat → ClassId} {tL tM : Nat} {A : AD} {v v' : VV} {mL : Nat} {wsM : List Cond}
/-- where a helper of the law stands -/
def HC (p : Program) (s : State) (m : MethodId) (c : Code) (cc : ByteArray) (args : Array Value) (wsM : List Cond) (mL : Nat) (G : va_G) (ca : Nat → ClassId) (tL tM : Nat) (Ap : Nat → Prop) : Prop := p.tables.exec = Jvm.exec ∧ c.code = cc ∧ c.maxLocals = mL ∧ s.vm.findClass RL = some m.cls ∧ (∀ w ∈ wsM, w.before args s = true) ∧ EV G ca s ∧ SY tL tM Ap s ∧ (∀ q : Nat, s.heap.size ≤ q → Ap q)
theorem pcY_V {Wd : va_W} {bb : Addr} {As : List Value} {C : String} {q0 ci : Nat} {q : vw_C} {fs : List Value} (hev : EV G ca s) (hP : va_P G vwCl Wd H) (hD : va_D Ap Wd) (he : Wd[q0]? = some (bb, .inr (ci, fs))) (hc : vwCl[ci]? = some q) (hC : q.1 = C) (hX : ∀ U : State, U.heap = H → s.WarmedH U.vm → SY tL tM (va_A Wd H.size) U) : PreV s H C bb (pcY G ca tL tM Wd (.ref bb :: As) H.size) As :=
  ⟨pcY_blind, hC ▸ va_recv hev.1 hP hc he, fun U hU hW => ⟨rfl, by rw [hU], by rw [hU]; exact hP, hev.warm hW, hD.weaken (fun _ _ _ _ => trivial), hX U hU hW⟩⟩
theorem pcY_S {Wd : va_W} {As : List Value} (hev : EV G ca s) (hP : va_P G vwCl Wd H) (hD : va_D Ap Wd) (hX : ∀ U : State, U.heap = H → s.WarmedH U.vm → SY tL tM (va_A Wd H.size) U) : PreS s H (pcY G ca tL tM Wd As H.size) As :=
  ⟨pcY_blind, fun U hU hW => ⟨rfl, by rw [hU], by rw [hU]; exact hP, hev.warm hW, hD.weaken (fun _ _ _ _ => trivial), hX U hU hW⟩⟩
theorem CtS.use {y : MethodName} {ws : List Cond} {rm : Room} {as : List Value} {Wd Wd1 : va_W} {r : Int32} (h : CtS l y ws rm as G ca tL tM Wd Wd1 r) (sz : Nat) : Met l y ws rm (pcY G ca tL tM Wd as sz) (va_Qi (fun (r1 : Int32) (_ : Unit) => r1 = r) (fun _ t => va_P G vwCl Wd1 t.heap) (va_A Wd sz)) 0 0 (va_A Wd sz) := h sz
/-- a method that answers a long and leaves its world as it was -/
def CtL (l : Launch) (y : MethodName) (ws : List Cond) (rm : Room) (as : List Value) (G : va_G) (ca : Nat → ClassId) (tL tM : Nat) (Wd : va_W) (r : Int64) : Prop := ∀ sz : Nat, Met l y ws rm (pcY G ca tL tM Wd as sz) (va_Ql (fun (r' : Int64) (_ : Unit) => r' = r) (fun _ t => va_P G vwCl Wd t.heap) (va_A Wd sz)) 0 0 (va_A Wd sz)
theorem SY_sub {Wd : va_W} (hX : SY tL tM Ap s) (hA : ∀ q : Nat, s.heap.size ≤ q → Ap q) (hD : va_D Ap Wd) (hS : va_S Ap s.heap H locs) : ∀ U : State, U.heap = H → s.WarmedH U.vm → SY tL tM (va_A Wd H.size) U := by
  refine hX.sub hS (fun q hq => ?_)
  rcases hq with ⟨k, e, hk⟩ | hq
  · exact hD.2 k _ hk
  · exact hA q (Nat.le_trans hS.1 hq)
theorem goLw {Wc : va_W} {H0 : Heap} {a : Array Value} {rest : List Value} {r : Int64} (hr : va_Run p l e R s m args below meth c H locs cells slots 0 0 (F0 m pc ls st0) rest (va_Ql (fun (r' : Int64) (_ : Unit) => r' = r) (fun _ t => va_P G vwCl Wc t.heap) (va_A Wc H.size) a) (va_A Wc H.size)) (hD : va_D Ap Wc) (hS : va_S Ap H0 H locs) (hA : ∀ q : Nat, H0.size ≤ q → Ap q)
    (kk : ∀ (H1 : Heap) (locs1 : List Loc), va_P G vwCl Wc H1 → va_D Ap Wc → va_S Ap H0 H1 locs1 → W p l e R s m args below meth c H1 locs1 cells slots Q (F0 m (pc + 3) ls (.long r :: rest))) : W p l e R s m args below meth c H locs cells slots Q (F0 m pc ls st0) := by
  have hF := A_mid (L := []) (R := []) (by rw [List.append_nil]; exact hD) hS hA
  refine va_calll hr hS (fun q _ h => hF q h) hF (fun r' u t H1 locs1 ht _ hw hB _ hk1 hS1 => ?_)
  subst hw
  rw [ht] at hB
  exact kk H1 locs1 hB hD hS1
/-- a method of the class called -/
theorem h_op (C : HC p s m c cc args wsM mL G ca tL tM Ap) (hS : va_S Ap s.heap H locs) (hP : va_P G vwCl (XV ca A v) H) (hD : va_D Ap (XV ca A v)) (hls : ls.size = mL) {y : MethodName} {ws ws' : List Cond} {as : List Value} {r : Int32} {idx maxL n : Nat} {bytes : ByteArray} {rt : Option FieldType}
    (hct : KO l G ca tL tM A v v' y ws as r) (hg : GoodIn wsM (wsV RL idx RX4 y ws)) (hw : ws = Cond.code y bytes maxL rt :: ws') (hd : y.cls = RX4 ∧ y.cls ≠ "java/lang/invoke/MethodHandle" ∧ y.cls ≠ "java/lang/invoke/VarHandle" ∧ (parseMethodDescriptor y.desc).map (fun d => d.parameters.length) = some n) (hlo : rm8.frames + 1 ≤ R.frames ∧ 8 + (maxL + 11) + rm8.locals ≤ R.locals) (hn : as.length = n) (hst : st0 = as.reverse ++ .ref A.1.1 :: st) (hcat : (st.map fun v => v.category).sum ≤ 8) (dg : decode cc pc = .ok (.invokevirtual idx, 3)) (hf : cells + 0 ≤ R.cells ∧ slots + 0 ≤ R.slots)
    (kk : ∀ (H1 : Heap) (locs1 : List Loc), va_P G vwCl (XV ca A v') H1 → va_D Ap (XV ca A v') → va_S Ap s.heap H1 locs1 → W p l e R s m args below meth c H1 locs1 cells slots Q (F0 m (pc + 3) ls (.int r :: st))) : W p l e R s m args below meth c H locs cells slots Q (F0 m pc ls st0) := by
  obtain ⟨hx, hb, hmx, hown, hts, hev, hX, hA⟩ := C
  exact goIw (va_runV (As := as) (rest := st) ⟨hx, hb, hmx, hown, hts⟩ (CtS.use hct H.size) (cwV n hts hg hw rfl rfl hd hlo) (pcY_V hev hP hD (q0 := 0) rfl (ci := 4) rfl rfl (SY_sub hX hA hD hS)) rfl hn hls hst (lv_room hcat) dg hf) hD hS hA XV_F kk
/-- a helper of the law called -/
theorem h_st (C : HC p s m c cc args wsM mL G ca tL tM Ap) (hS : va_S Ap s.heap H locs) (hP : va_P G vwCl (XV ca A v) H) (hD : va_D Ap (XV ca A v)) (hls : ls.size = mL) {y : MethodName} {ws ws' : List Cond} {as : List Value} {r : Int32} {idx maxL n : Nat} {bytes : ByteArray} {rt : Option FieldType} {rm : Room}
    (hct : CtS l y ws rm as G ca tL tM (XV ca A v) (XV ca A v') r) (hg : GoodIn wsM (va_wsS RL idx y ws)) (hw : ws = Cond.code y bytes maxL rt :: ws') (hrc : rm.cells = 0) (hrs : rm.slots = 0) (hd : y.cls ≠ "java/lang/invoke/MethodHandle" ∧ y.cls ≠ "java/lang/invoke/VarHandle" ∧ (parseMethodDescriptor y.desc).map (fun d => d.parameters.length) = some n) (hlo : rm.frames + 1 ≤ R.frames ∧ 8 + (maxL + 11) + rm.locals ≤ R.locals) (hn : as.length = n) (hst : st0 = as.reverse ++ st) (hcat : (st.map fun v => v.category).sum ≤ 8) (dg : decode cc pc = .ok (.invokestatic idx, 3)) (hf : cells + 0 ≤ R.cells ∧ slots + 0 ≤ R.slots)
    (kk : ∀ (H1 : Heap) (locs1 : List Loc), va_P G vwCl (XV ca A v') H1 → va_D Ap (XV ca A v') → va_S Ap s.heap H1 locs1 → W p l e R s m args below meth c H1 locs1 cells slots Q (F0 m (pc + 3) ls (.int r :: st))) : W p l e R s m args below meth c H locs cells slots Q (F0 m pc ls st0) := by
  obtain ⟨hx, hb, hmx, hown, hts, hev, hX, hA⟩ := C
  exact goIw (va_runS (As := as) (rest := st) ⟨hx, hb, hmx, hown, hts⟩ (CtS.use hct H.size) (va_cwS n hts hg hw hrc hrs hd hlo) (pcY_S hev hP hD (SY_sub hX hA hD hS)) rfl hn hls hst (lv_room hcat) dg hf) hD hS hA XV_F kk
/-- seen called -/
theorem h_sl (C : HC p s m c cc args wsM mL G ca tL tM Ap) (hS : va_S Ap s.heap H locs) (hP : va_P G vwCl (XV ca A v) H) (hD : va_D Ap (XV ca A v)) (hls : ls.size = mL) {y : MethodName} {ws ws' : List Cond} {as : List Value} {r : Int64} {idx maxL n : Nat} {bytes : ByteArray} {rt : Option FieldType} {rm : Room}
    (hct : CtL l y ws rm as G ca tL tM (XV ca A v) r) (hg : GoodIn wsM (va_wsS RL idx y ws)) (hw : ws = Cond.code y bytes maxL rt :: ws') (hrc : rm.cells = 0) (hrs : rm.slots = 0) (hd : y.cls ≠ "java/lang/invoke/MethodHandle" ∧ y.cls ≠ "java/lang/invoke/VarHandle" ∧ (parseMethodDescriptor y.desc).map (fun d => d.parameters.length) = some n) (hlo : rm.frames + 1 ≤ R.frames ∧ 8 + (maxL + 11) + rm.locals ≤ R.locals) (hn : as.length = n) (hst : st0 = as.reverse ++ st) (hcat : (st.map fun v => v.category).sum ≤ 8) (dg : decode cc pc = .ok (.invokestatic idx, 3)) (hf : cells + 0 ≤ R.cells ∧ slots + 0 ≤ R.slots)
    (kk : ∀ (H1 : Heap) (locs1 : List Loc), va_P G vwCl (XV ca A v) H1 → va_D Ap (XV ca A v) → va_S Ap s.heap H1 locs1 → W p l e R s m args below meth c H1 locs1 cells slots Q (F0 m (pc + 3) ls (.long r :: st))) : W p l e R s m args below meth c H locs cells slots Q (F0 m pc ls st0) := by
  obtain ⟨hx, hb, hmx, hown, hts, hev, hX, hA⟩ := C
  exact goLw (va_runS (As := as) (rest := st) ⟨hx, hb, hmx, hown, hts⟩ (hct H.size) (va_cwS n hts hg hw hrc hrs hd hlo) (pcY_S hev hP hD (SY_sub hX hA hD hS)) rfl hn hls hst (lv_room hcat) dg hf) hD hS hA kk
/-- size called: it touches no world -/
theorem h_sz (C : HC p s m c cc args wsM mL G ca tL tM Ap) (hS : va_S Ap s.heap H locs) {Wd : va_W} (hP : va_P G vwCl Wd H) (hls : ls.size = mL) {y : MethodName} {ws ws' : List Cond} {as : List Value} {r : Int32} {idx maxL n : Nat} {bytes : ByteArray} {rt : Option FieldType} {rm : Room}
    (hct : CtI l y ws rm as G ca [] [] r) (hg : GoodIn wsM (va_wsS RL idx y ws)) (hw : ws = Cond.code y bytes maxL rt :: ws') (hrc : rm.cells = 0) (hrs : rm.slots = 0) (hd : y.cls ≠ "java/lang/invoke/MethodHandle" ∧ y.cls ≠ "java/lang/invoke/VarHandle" ∧ (parseMethodDescriptor y.desc).map (fun d => d.parameters.length) = some n) (hlo : rm.frames + 1 ≤ R.frames ∧ 8 + (maxL + 11) + rm.locals ≤ R.locals) (hn : as.length = n) (hst : st0 = as.reverse ++ st) (hcat : (st.map fun v => v.category).sum ≤ 8) (dg : decode cc pc = .ok (.invokestatic idx, 3)) (hf : cells + 0 ≤ R.cells ∧ slots + 0 ≤ R.slots)
    (kk : ∀ (H1 : Heap) (locs1 : List Loc), va_P G vwCl Wd H1 → va_S Ap s.heap H1 locs1 → W p l e R s m args below meth c H1 locs1 cells slots Q (F0 m (pc + 3) ls (.int r :: st))) : W p l e R s m args below meth c H locs cells slots Q (F0 m pc ls st0) := by
  obtain ⟨hx, hb, hmx, hown, hts, hev, hX, hA⟩ := C
  exact goI0 (va_runS (As := as) (rest := st) ⟨hx, hb, hmx, hown, hts⟩ (CtI.use hct H.size) (va_cwS n hts hg hw hrc hrs hd hlo) (pcW_S (A := Ap) hev P_nil D_nil) rfl hn hls hst (lv_room hcat) dg hf) hP hS hA kk
/-- the number on top, said otherwise, also below -/
theorem CtL.ofW {y : MethodName} {ws ws' : List Cond} {rm : Room} {as : List Value} {Wd : va_W} {r : Int64} {maxL : Nat} (hy : plainName y.cls = true) (hw : ws = Cond.code y cc maxL (some .long) :: ws') (hlen : (lg_sl as).length ≤ maxL)
    (k : ∀ (p : Program) (e : Env) (s : State) (m : MethodId) (below : List Frame) (meth : Method) (c : Code) (A : Nat → Prop) (ls : Array Slot) (Q : State → Prop) (H : Heap), p.tables.exec = Jvm.exec → c.code = cc → c.maxLocals = maxL → (∀ w ∈ ws, w.before as.toArray s = true) → s.vm.findClass y.cls = some m.cls → EV G ca s → va_P G vwCl Wd H → va_D A Wd → (∀ q : Nat, s.heap.size ≤ q → A q) → va_S A s.heap H [] → lv_has ls maxL (lv_args 0 as) → SY tL tM A s →
      (∀ (H : Heap) (locs : List Loc) (pc : Nat) (ls' : Array Slot), va_P G vwCl Wd H → va_S A s.heap H locs → decode cc pc = .ok (.lreturn, 1) → W p l e rm s m as.toArray below meth c H locs 0 0 Q (F0 m pc ls' [.long r])) →
      W p l e rm s m as.toArray below meth c H [] 0 0 Q (F0 m 0 ls [])) : CtL l y ws rm as G ca tL tM Wd r := by
  intro sz
  refine Met.ofW (cc := cc) (maxL := maxL) (ret := some .long) hy hw ?_
  intro p e s m args below meth c s₁ B hml hv
  obtain ⟨rfl, hsz, hP, hK, hD0, hX⟩ := hv
  have hlocks := B.notSynchronized
  have hr := B.returns
  subst hsz
  rw [lg_entry_eq]
  exact k p e s m below meth c (va_A Wd s.heap.size) _ _ s.heap B.exec B.bytes hml (atoms_spec (ws := ws) B.pre) (findClass_of_methodNamed B.named) hK hP (hD0.self (sz := s.heap.size)) (fun q h => Or.inr h) va_S.rf (lv_entry as hlen) hX (fun H locs pc ls' h1 h2 h3 => W.lret B.exec B.bytes hr (fun t ht _ => ⟨⟨r, (), rfl, rfl, by rw [← ht] at h1; exact h1⟩, h2.F ht⟩) h2.2.2 h3 hlocks)
end HLP
