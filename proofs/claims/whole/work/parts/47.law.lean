/-! the law: its world, a call of both, each of its cases -/
section LAW
variable {p : Program} {l : Launch} {e : Env} {s : State} {m : MethodId} {below : List Frame} {meth : Method} {c : Code} {b L : Nat} {xs : Nat → Int32} {G : va_G} {ca : Nat → ClassId} {tL tM : Nat} {A : AD} {h5 : Nat} {a5 : Nat → Nat} {v : VV} {M : MM} {H : Heap} {locs : List Loc} {ls : Array Slot} {Q : State → Prop} {i : Nat} {st : List Value}
abbrev AA (s : State) : Nat → Prop := fun q => s.heap.size ≤ q
def LW (ca : Nat → ClassId) (A : AD) (h5 : Nat) (a5 : Nat → Nat) (v : VV) (M : MM) : va_W := moT ca h5 a5 M ++ XV ca A v
def LC (p : Program) (s : State) (m : MethodId) (meth : Method) (c : Code) (b L : Nat) (xs : Nat → Int32) (G : va_G) (ca : Nat → ClassId) (tL tM : Nat) : Prop := p.tables.exec = Jvm.exec ∧ c.code = cL_law ∧ c.maxLocals = 4 ∧ s.vm.findClass RL = some m.cls ∧ (∀ w ∈ wsL_law, w.before #[Value.ref b] s = true) ∧ va_X b L xs s s.heap ∧ b < s.heap.size ∧ EV G ca s ∧ SY tL tM (AA s) s
theorem sts_F {k : Nat → Nat} {bb : Nat → Nat → Nat} {T T' : Nat → SS} : ∀ n, (sts ca k bb T' n).map Prod.fst = (sts ca k bb T n).map Prod.fst := by
  intro n
  induction n with
  | zero => rfl
  | succ n ih => exact app_F ih stF
theorem XV_F {v' : VV} : (XV ca A v').map Prod.fst = (XV ca A v).map Prod.fst := app_F rfl (app_F paF (app_F hiF (app_F stF (app_F (sts_F 6) (app_F slF (sts_F 2))))))
theorem LW_F {v' : VV} {M' : MM} : (LW ca A h5 a5 v' M').map Prod.fst = (LW ca A h5 a5 v M).map Prod.fst := app_F moF XV_F
def TwoAt (l : Launch) (G : va_G) (ca : Nat → ClassId) (tL tM : Nat) (A : AD) (h5 : Nat) (a5 : Nat → Nat) (v : VV) (M : MM) (y4 : MethodName) (ws4 : List Cond) (as4 : List Value) (y5 : MethodName) (ws5 : List Cond) (as5 : List Value) : Prop :=
  ∃ (r : Int32) (v' : VV) (M' : MM), Rel A v' M' ∧ CtS l y4 ws4 rm8 (.ref A.1.1 :: as4) G ca tL tM (LW ca A h5 a5 v M) (LW ca A h5 a5 v' M) r ∧ CtS l y5 ws5 rm8 (.ref h5 :: as5) G ca tL tM (LW ca A h5 a5 v' M) (LW ca A h5 a5 v' M') r
theorem StepAt.two {y4 y5 : MethodName} {ws4 ws5 : List Cond} {as4 as5 : List Value} (h : StepAt l G ca tL tM A h5 a5 v M y4 ws4 as4 y5 ws5 as5) : TwoAt l G ca tL tM A h5 a5 v M y4 ws4 as4 y5 ws5 as5 := by
  obtain ⟨r, v', M', h1, h2, h3⟩ := h
  exact ⟨r, v', M', h1, h2.frame List.perm_append_comm List.perm_append_comm, h3.frame (List.Perm.refl _) (List.Perm.refl _)⟩
theorem pcY_V {Ap : Nat → Prop} {Wd : va_W} {bb : Addr} {As : List Value} {C : String} {q0 ci : Nat} {q : vw_C} {fs : List Value} (hev : EV G ca s) (hP : va_P G vwCl Wd H) (hD : va_D Ap Wd) (he : Wd[q0]? = some (bb, .inr (ci, fs))) (hc : vwCl[ci]? = some q) (hC : q.1 = C) (hX : ∀ U : State, U.heap = H → s.WarmedH U.vm → SY tL tM (va_A Wd H.size) U) : PreV s H C bb (pcY G ca tL tM Wd (.ref bb :: As) H.size) As :=
  ⟨pcY_blind, hC ▸ va_recv hev.1 hP hc he, fun U hU hW => ⟨rfl, by rw [hU], by rw [hU]; exact hP, hev.warm hW, hD.weaken (fun _ _ _ _ => trivial), hX U hU hW⟩⟩
theorem CtS.use {y : MethodName} {ws : List Cond} {rm : Room} {as : List Value} {Wd Wd1 : va_W} {r : Int32} (h : CtS l y ws rm as G ca tL tM Wd Wd1 r) (sz : Nat) : Met l y ws rm (pcY G ca tL tM Wd as sz) (va_Qi (fun (r1 : Int32) (_ : Unit) => r1 = r) (fun _ t => va_P G vwCl Wd1 t.heap) (va_A Wd sz)) 0 0 (va_A Wd sz) := h sz
theorem LW_sub {Wd : va_W} (hX : SY tL tM (AA s) s) (hD : va_D (AA s) Wd) (hS : va_S (AA s) s.heap H locs) : ∀ U : State, U.heap = H → s.WarmedH U.vm → SY tL tM (va_A Wd H.size) U := by
  refine hX.sub hS (fun q hq => ?_)
  rcases hq with ⟨k, e, hk⟩ | hq
  · exact hD.2 k _ hk
  · exact Nat.le_trans hS.1 hq
/-- script[i + k], pushed -/
theorem law_ld (C : LC p s m meth c b L xs G ca tL tM) (hS : va_S (AA s) s.heap H locs) {x2 x1 : Value} (hl : lv_has ls 4 [(0, .ref b), (1, x1), (2, x2), (3, .int (nI i))]) (hL : L ≤ 2560) {k : Nat} (hi : i + k < L) {z : Int} (hk : Int32.ofInt z = nI k) {pc : Nat}
    (d0 : decode cL_law pc = .ok (.aload_n 0, 1)) (d1 : decode cL_law (pc + 1) = .ok (.iload_n 3, 1)) (d2 : decode cL_law (pc + 1 + 1) = .ok (.iconst z, 1)) (d3 : decode cL_law (pc + 1 + 1 + 1) = .ok (.iadd, 1)) (d4 : decode cL_law (pc + 1 + 1 + 1 + 1) = .ok (.iaload, 1))
    (kk : W p l e room_1 s m #[Value.ref b] below meth c H locs 600000 7302250 Q (F0 m (pc + 5) ls (.int (xs (i + k)) :: st))) : W p l e room_1 s m #[Value.ref b] below meth c H locs 600000 7302250 Q (F0 m pc ls st) := by
  obtain ⟨hx, hb, hml, hown, hts, hX, hbl, hev, hY⟩ := C
  have hbA : ¬ (AA s) b := Nat.not_le.mpr hbl
  refine lv_aload_n hx hb d0 rfl (lv_at hl 0 rfl) ?_
  refine lv_iload_n hx hb d1 rfl (lv_at hl 3 rfl) ?_
  refine lv_iconst (v := nI k) hx hb d2 hk ?_
  refine lv_iadd hx hb d3 ?_
  rw [nI_add]
  refine va_sld hx hb hX hbl hbA hS (vp_in_nI hi (by omega)) d4 ?_
  rw [nI_clamp (by omega)]
  exact kk
/-- the class's method called -/
theorem law_c4 (C : LC p s m meth c b L xs G ca tL tM) (hS : va_S (AA s) s.heap H locs) (hP : va_P G vwCl (LW ca A h5 a5 v M) H) (hD : va_D (AA s) (LW ca A h5 a5 v M)) (hls : ls.size = 4) {v' : VV} {y : MethodName} {ws ws' : List Cond} {as : List Value} {r : Int32} {idx maxL n pc : Nat} {bytes : ByteArray} {rt : Option FieldType} {st0 : List Value}
    (hct : CtS l y ws rm8 (.ref A.1.1 :: as) G ca tL tM (LW ca A h5 a5 v M) (LW ca A h5 a5 v' M) r) (hg : GoodIn wsL_law (wsV RL idx RX4 y ws)) (hw : ws = Cond.code y bytes maxL rt :: ws') (hd : y.cls = RX4 ∧ y.cls ≠ "java/lang/invoke/MethodHandle" ∧ y.cls ≠ "java/lang/invoke/VarHandle" ∧ (parseMethodDescriptor y.desc).map (fun d => d.parameters.length) = some n) (hml : maxL ≤ 19) (hn : as.length = n) (hst : st0 = as.reverse ++ .ref A.1.1 :: st) (hcat : (st.map fun v => v.category).sum ≤ 8) (dg : decode cL_law pc = .ok (.invokevirtual idx, 3))
    (kk : ∀ (H1 : Heap) (locs1 : List Loc), va_P G vwCl (LW ca A h5 a5 v' M) H1 → va_D (AA s) (LW ca A h5 a5 v' M) → va_S (AA s) s.heap H1 locs1 → W p l e room_1 s m #[Value.ref b] below meth c H1 locs1 600000 7302250 Q (F0 m (pc + 3) ls (.int r :: st))) : W p l e room_1 s m #[Value.ref b] below meth c H locs 600000 7302250 Q (F0 m pc ls st0) := by
  obtain ⟨hx, hb, hmx, hown, hts, hX, hbl, hev, hY⟩ := C
  have hlo : 8 + (maxL + 11) + rm8.locals ≤ room_1.locals := by
    show 8 + (maxL + 11) + 290 ≤ 328
    omega
  exact goIw (va_runV (As := as) (rest := st) ⟨hx, hb, hmx, hown, hts⟩ (hct.use H.size) (cwV n hts hg hw rfl rfl hd ⟨Nat.le_of_ble_eq_true rfl, hlo⟩) (pcY_V hev hP hD (q0 := 7) rfl (ci := 4) rfl rfl (LW_sub hY hD hS)) rfl hn hls hst (lv_room hcat) dg ⟨Nat.le_of_ble_eq_true rfl, Nat.le_of_ble_eq_true rfl⟩) hD hS (fun _ h => h) LW_F kk
/-- the reference's method called -/
theorem law_c5 (C : LC p s m meth c b L xs G ca tL tM) (hS : va_S (AA s) s.heap H locs) (hP : va_P G vwCl (LW ca A h5 a5 v M) H) (hD : va_D (AA s) (LW ca A h5 a5 v M)) (hls : ls.size = 4) {M' : MM} {y : MethodName} {ws ws' : List Cond} {as : List Value} {r : Int32} {idx maxL n pc : Nat} {bytes : ByteArray} {rt : Option FieldType} {st0 : List Value}
    (hct : CtS l y ws rm8 (.ref h5 :: as) G ca tL tM (LW ca A h5 a5 v M) (LW ca A h5 a5 v M') r) (hg : GoodIn wsL_law (wsV RL idx RX5 y ws)) (hw : ws = Cond.code y bytes maxL rt :: ws') (hd : y.cls = RX5 ∧ y.cls ≠ "java/lang/invoke/MethodHandle" ∧ y.cls ≠ "java/lang/invoke/VarHandle" ∧ (parseMethodDescriptor y.desc).map (fun d => d.parameters.length) = some n) (hml : maxL ≤ 19) (hn : as.length = n) (hst : st0 = as.reverse ++ .ref h5 :: st) (hcat : (st.map fun v => v.category).sum ≤ 8) (dg : decode cL_law pc = .ok (.invokevirtual idx, 3))
    (kk : ∀ (H1 : Heap) (locs1 : List Loc), va_P G vwCl (LW ca A h5 a5 v M') H1 → va_D (AA s) (LW ca A h5 a5 v M') → va_S (AA s) s.heap H1 locs1 → W p l e room_1 s m #[Value.ref b] below meth c H1 locs1 600000 7302250 Q (F0 m (pc + 3) ls (.int r :: st))) : W p l e room_1 s m #[Value.ref b] below meth c H locs 600000 7302250 Q (F0 m pc ls st0) := by
  obtain ⟨hx, hb, hmx, hown, hts, hX, hbl, hev, hY⟩ := C
  have hlo : 8 + (maxL + 11) + rm8.locals ≤ room_1.locals := by
    show 8 + (maxL + 11) + 290 ≤ 328
    omega
  exact goIw (va_runV (As := as) (rest := st) ⟨hx, hb, hmx, hown, hts⟩ (hct.use H.size) (cwV n hts hg hw rfl rfl hd ⟨Nat.le_of_ble_eq_true rfl, hlo⟩) (pcY_V hev hP hD (q0 := 0) rfl (ci := 5) rfl rfl (LW_sub hY hD hS)) rfl hn hls hst (lv_room hcat) dg ⟨Nat.le_of_ble_eq_true rfl, Nat.le_of_ble_eq_true rfl⟩) hD hS (fun _ h => h) LW_F kk
theorem lc_set (C : LC p s m meth c b L xs G ca tL tM) (hA : SlOk A) (hL : L ≤ 2560) (hi : i + 5 ≤ L) (hS : va_S (AA s) s.heap H locs) (hP : va_P G vwCl (LW ca A h5 a5 v M) H) (hD : va_D (AA s) (LW ca A h5 a5 v M)) (hR : Rel A v M) (hl : lv_has ls 4 [(0, .ref b), (1, .ref A.1.1), (2, .ref h5), (3, .int (nI i))])
    (kk : ∀ (v' : VV) (M' : MM) (H1 : Heap) (locs1 : List Loc), Rel A v' M' → va_P G vwCl (LW ca A h5 a5 v' M') H1 → va_D (AA s) (LW ca A h5 a5 v' M') → va_S (AA s) s.heap H1 locs1 → W p l e room_1 s m #[Value.ref b] below meth c H1 locs1 600000 7302250 Q (F0 m 826 ls [])) : W p l e room_1 s m #[Value.ref b] below meth c H locs 600000 7302250 Q (F0 m 144 ls []) := by
  obtain ⟨r, v2, M2, hR2, h4, h5c⟩ := (st_set hR (xs (i + 1)) (xs (i + 2)) : StepAt l G ca tL tM A h5 a5 v M _ _ _ _ _ _).two
  obtain ⟨hx, hb, hml, hown, hts, hX, hbl, hev, hY⟩ := id C
  refine lv_aload_n hx hb dL_law_144 rfl (lv_at hl 1 rfl) ?_
  refine law_ld C hS hl hL (k := 1) (by omega) (by decide) dL_law_145 dL_law_146 dL_law_147 dL_law_148 dL_law_149 ?_
  refine law_ld C hS hl hL (k := 2) (by omega) (by decide) dL_law_150 dL_law_151 dL_law_152 dL_law_153 dL_law_154 ?_
  refine law_c4 (n := 2) (st := []) C hS hP hD hl.1 h4 gL_law_X4_set rfl (by decide +kernel) (by decide) rfl rfl (Nat.le_of_ble_eq_true rfl) dL_law_155 (fun H locs hP hD hS => ?_)
  refine lv_aload_n hx hb dL_law_158 rfl (lv_at hl 2 rfl) ?_
  refine law_ld C hS hl hL (k := 1) (by omega) (by decide) dL_law_159 dL_law_160 dL_law_161 dL_law_162 dL_law_163 ?_
  refine law_ld C hS hl hL (k := 2) (by omega) (by decide) dL_law_164 dL_law_165 dL_law_166 dL_law_167 dL_law_168 ?_
  refine law_c5 (n := 2) (st := [.int r]) C hS hP hD hl.1 h5c gL_law_X5_set rfl (by decide +kernel) (by decide) rfl rfl (Nat.le_of_ble_eq_true rfl) dL_law_169 (fun H locs hP hD hS => ?_)
  exact lv_icmp_eq (tgt := 826) hx hb dL_law_172 (by decide) (fun _ => kk v2 M2 H locs hR2 hP hD hS) (fun c => absurd rfl c)
theorem lc_brim (C : LC p s m meth c b L xs G ca tL tM) (hA : SlOk A) (hL : L ≤ 2560) (hi : i + 5 ≤ L) (hS : va_S (AA s) s.heap H locs) (hP : va_P G vwCl (LW ca A h5 a5 v M) H) (hD : va_D (AA s) (LW ca A h5 a5 v M)) (hR : Rel A v M) (hl : lv_has ls 4 [(0, .ref b), (1, .ref A.1.1), (2, .ref h5), (3, .int (nI i))])
    (kk : ∀ (v' : VV) (M' : MM) (H1 : Heap) (locs1 : List Loc), Rel A v' M' → va_P G vwCl (LW ca A h5 a5 v' M') H1 → va_D (AA s) (LW ca A h5 a5 v' M') → va_S (AA s) s.heap H1 locs1 → W p l e room_1 s m #[Value.ref b] below meth c H1 locs1 600000 7302250 Q (F0 m 826 ls [])) : W p l e room_1 s m #[Value.ref b] below meth c H locs 600000 7302250 Q (F0 m 177 ls []) := by
  obtain ⟨r, v2, M2, hR2, h4, h5c⟩ := (st_brim hR (xs (i + 1)) (xs (i + 2)) : StepAt l G ca tL tM A h5 a5 v M _ _ _ _ _ _).two
  obtain ⟨hx, hb, hml, hown, hts, hX, hbl, hev, hY⟩ := id C
  refine lv_aload_n hx hb dL_law_177 rfl (lv_at hl 1 rfl) ?_
  refine law_ld C hS hl hL (k := 1) (by omega) (by decide) dL_law_178 dL_law_179 dL_law_180 dL_law_181 dL_law_182 ?_
  refine law_ld C hS hl hL (k := 2) (by omega) (by decide) dL_law_183 dL_law_184 dL_law_185 dL_law_186 dL_law_187 ?_
  refine law_c4 (n := 2) (st := []) C hS hP hD hl.1 h4 gL_law_X4_brim rfl (by decide +kernel) (by decide) rfl rfl (Nat.le_of_ble_eq_true rfl) dL_law_188 (fun H locs hP hD hS => ?_)
  refine lv_aload_n hx hb dL_law_191 rfl (lv_at hl 2 rfl) ?_
  refine law_ld C hS hl hL (k := 1) (by omega) (by decide) dL_law_192 dL_law_193 dL_law_194 dL_law_195 dL_law_196 ?_
  refine law_ld C hS hl hL (k := 2) (by omega) (by decide) dL_law_197 dL_law_198 dL_law_199 dL_law_200 dL_law_201 ?_
  refine law_c5 (n := 2) (st := [.int r]) C hS hP hD hl.1 h5c gL_law_X5_brim rfl (by decide +kernel) (by decide) rfl rfl (Nat.le_of_ble_eq_true rfl) dL_law_202 (fun H locs hP hD hS => ?_)
  exact lv_icmp_eq (tgt := 826) hx hb dL_law_205 (by decide) (fun _ => kk v2 M2 H locs hR2 hP hD hS) (fun c => absurd rfl c)
theorem lc_drain (C : LC p s m meth c b L xs G ca tL tM) (hA : SlOk A) (hL : L ≤ 2560) (hi : i + 5 ≤ L) (hS : va_S (AA s) s.heap H locs) (hP : va_P G vwCl (LW ca A h5 a5 v M) H) (hD : va_D (AA s) (LW ca A h5 a5 v M)) (hR : Rel A v M) (hl : lv_has ls 4 [(0, .ref b), (1, .ref A.1.1), (2, .ref h5), (3, .int (nI i))])
    (kk : ∀ (v' : VV) (M' : MM) (H1 : Heap) (locs1 : List Loc), Rel A v' M' → va_P G vwCl (LW ca A h5 a5 v' M') H1 → va_D (AA s) (LW ca A h5 a5 v' M') → va_S (AA s) s.heap H1 locs1 → W p l e room_1 s m #[Value.ref b] below meth c H1 locs1 600000 7302250 Q (F0 m 826 ls [])) : W p l e room_1 s m #[Value.ref b] below meth c H locs 600000 7302250 Q (F0 m 210 ls []) := by
  obtain ⟨r, v2, M2, hR2, h4, h5c⟩ := (st_drain hR (xs (i + 1)) : StepAt l G ca tL tM A h5 a5 v M _ _ _ _ _ _).two
  obtain ⟨hx, hb, hml, hown, hts, hX, hbl, hev, hY⟩ := id C
  refine lv_aload_n hx hb dL_law_210 rfl (lv_at hl 1 rfl) ?_
  refine law_ld C hS hl hL (k := 1) (by omega) (by decide) dL_law_211 dL_law_212 dL_law_213 dL_law_214 dL_law_215 ?_
  refine law_c4 (n := 1) (st := []) C hS hP hD hl.1 h4 gL_law_X4_drain rfl (by decide +kernel) (by decide) rfl rfl (Nat.le_of_ble_eq_true rfl) dL_law_216 (fun H locs hP hD hS => ?_)
  refine lv_aload_n hx hb dL_law_219 rfl (lv_at hl 2 rfl) ?_
  refine law_ld C hS hl hL (k := 1) (by omega) (by decide) dL_law_220 dL_law_221 dL_law_222 dL_law_223 dL_law_224 ?_
  refine law_c5 (n := 1) (st := [.int r]) C hS hP hD hl.1 h5c gL_law_X5_drain rfl (by decide +kernel) (by decide) rfl rfl (Nat.le_of_ble_eq_true rfl) dL_law_225 (fun H locs hP hD hS => ?_)
  exact lv_icmp_eq (tgt := 826) hx hb dL_law_228 (by decide) (fun _ => kk v2 M2 H locs hR2 hP hD hS) (fun c => absurd rfl c)
theorem lc_shoes (C : LC p s m meth c b L xs G ca tL tM) (hA : SlOk A) (hL : L ≤ 2560) (hi : i + 5 ≤ L) (hS : va_S (AA s) s.heap H locs) (hP : va_P G vwCl (LW ca A h5 a5 v M) H) (hD : va_D (AA s) (LW ca A h5 a5 v M)) (hR : Rel A v M) (hl : lv_has ls 4 [(0, .ref b), (1, .ref A.1.1), (2, .ref h5), (3, .int (nI i))])
    (kk : ∀ (v' : VV) (M' : MM) (H1 : Heap) (locs1 : List Loc), Rel A v' M' → va_P G vwCl (LW ca A h5 a5 v' M') H1 → va_D (AA s) (LW ca A h5 a5 v' M') → va_S (AA s) s.heap H1 locs1 → W p l e room_1 s m #[Value.ref b] below meth c H1 locs1 600000 7302250 Q (F0 m 826 ls [])) : W p l e room_1 s m #[Value.ref b] below meth c H locs 600000 7302250 Q (F0 m 233 ls []) := by
  obtain ⟨r, v2, M2, hR2, h4, h5c⟩ := (st_shoes hR (xs (i + 1)) (xs (i + 2)) : StepAt l G ca tL tM A h5 a5 v M _ _ _ _ _ _).two
  obtain ⟨hx, hb, hml, hown, hts, hX, hbl, hev, hY⟩ := id C
  refine lv_aload_n hx hb dL_law_233 rfl (lv_at hl 1 rfl) ?_
  refine law_ld C hS hl hL (k := 1) (by omega) (by decide) dL_law_234 dL_law_235 dL_law_236 dL_law_237 dL_law_238 ?_
  refine law_ld C hS hl hL (k := 2) (by omega) (by decide) dL_law_239 dL_law_240 dL_law_241 dL_law_242 dL_law_243 ?_
  refine law_c4 (n := 2) (st := []) C hS hP hD hl.1 h4 gL_law_X4_shoes rfl (by decide +kernel) (by decide) rfl rfl (Nat.le_of_ble_eq_true rfl) dL_law_244 (fun H locs hP hD hS => ?_)
  refine lv_aload_n hx hb dL_law_247 rfl (lv_at hl 2 rfl) ?_
  refine law_ld C hS hl hL (k := 1) (by omega) (by decide) dL_law_248 dL_law_249 dL_law_250 dL_law_251 dL_law_252 ?_
  refine law_ld C hS hl hL (k := 2) (by omega) (by decide) dL_law_253 dL_law_254 dL_law_255 dL_law_256 dL_law_257 ?_
  refine law_c5 (n := 2) (st := [.int r]) C hS hP hD hl.1 h5c gL_law_X5_shoes rfl (by decide +kernel) (by decide) rfl rfl (Nat.le_of_ble_eq_true rfl) dL_law_258 (fun H locs hP hD hS => ?_)
  exact lv_icmp_eq (tgt := 826) hx hb dL_law_261 (by decide) (fun _ => kk v2 M2 H locs hR2 hP hD hS) (fun c => absurd rfl c)
theorem lc_permit (C : LC p s m meth c b L xs G ca tL tM) (hA : SlOk A) (hL : L ≤ 2560) (hi : i + 5 ≤ L) (hS : va_S (AA s) s.heap H locs) (hP : va_P G vwCl (LW ca A h5 a5 v M) H) (hD : va_D (AA s) (LW ca A h5 a5 v M)) (hR : Rel A v M) (hl : lv_has ls 4 [(0, .ref b), (1, .ref A.1.1), (2, .ref h5), (3, .int (nI i))])
    (kk : ∀ (v' : VV) (M' : MM) (H1 : Heap) (locs1 : List Loc), Rel A v' M' → va_P G vwCl (LW ca A h5 a5 v' M') H1 → va_D (AA s) (LW ca A h5 a5 v' M') → va_S (AA s) s.heap H1 locs1 → W p l e room_1 s m #[Value.ref b] below meth c H1 locs1 600000 7302250 Q (F0 m 826 ls [])) : W p l e room_1 s m #[Value.ref b] below meth c H locs 600000 7302250 Q (F0 m 266 ls []) := by
  obtain ⟨r, v2, M2, hR2, h4, h5c⟩ := (st_permit hR (xs (i + 1)) (xs (i + 2)) : StepAt l G ca tL tM A h5 a5 v M _ _ _ _ _ _).two
  obtain ⟨hx, hb, hml, hown, hts, hX, hbl, hev, hY⟩ := id C
  refine lv_aload_n hx hb dL_law_266 rfl (lv_at hl 1 rfl) ?_
  refine law_ld C hS hl hL (k := 1) (by omega) (by decide) dL_law_267 dL_law_268 dL_law_269 dL_law_270 dL_law_271 ?_
  refine law_ld C hS hl hL (k := 2) (by omega) (by decide) dL_law_272 dL_law_273 dL_law_274 dL_law_275 dL_law_276 ?_
  refine law_c4 (n := 2) (st := []) C hS hP hD hl.1 h4 gL_law_X4_permit rfl (by decide +kernel) (by decide) rfl rfl (Nat.le_of_ble_eq_true rfl) dL_law_277 (fun H locs hP hD hS => ?_)
  refine lv_aload_n hx hb dL_law_280 rfl (lv_at hl 2 rfl) ?_
  refine law_ld C hS hl hL (k := 1) (by omega) (by decide) dL_law_281 dL_law_282 dL_law_283 dL_law_284 dL_law_285 ?_
  refine law_ld C hS hl hL (k := 2) (by omega) (by decide) dL_law_286 dL_law_287 dL_law_288 dL_law_289 dL_law_290 ?_
  refine law_c5 (n := 2) (st := [.int r]) C hS hP hD hl.1 h5c gL_law_X5_permit rfl (by decide +kernel) (by decide) rfl rfl (Nat.le_of_ble_eq_true rfl) dL_law_291 (fun H locs hP hD hS => ?_)
  exact lv_icmp_eq (tgt := 826) hx hb dL_law_294 (by decide) (fun _ => kk v2 M2 H locs hR2 hP hD hS) (fun c => absurd rfl c)
theorem lc_walk (C : LC p s m meth c b L xs G ca tL tM) (hA : SlOk A) (hL : L ≤ 2560) (hi : i + 5 ≤ L) (hS : va_S (AA s) s.heap H locs) (hP : va_P G vwCl (LW ca A h5 a5 v M) H) (hD : va_D (AA s) (LW ca A h5 a5 v M)) (hR : Rel A v M) (hl : lv_has ls 4 [(0, .ref b), (1, .ref A.1.1), (2, .ref h5), (3, .int (nI i))])
    (kk : ∀ (v' : VV) (M' : MM) (H1 : Heap) (locs1 : List Loc), Rel A v' M' → va_P G vwCl (LW ca A h5 a5 v' M') H1 → va_D (AA s) (LW ca A h5 a5 v' M') → va_S (AA s) s.heap H1 locs1 → W p l e room_1 s m #[Value.ref b] below meth c H1 locs1 600000 7302250 Q (F0 m 826 ls [])) : W p l e room_1 s m #[Value.ref b] below meth c H locs 600000 7302250 Q (F0 m 299 ls []) := by
  obtain ⟨r, v2, M2, hR2, h4, h5c⟩ := (st_walk hR (xs (i + 1)) (xs (i + 2)) (xs (i + 3)) : StepAt l G ca tL tM A h5 a5 v M _ _ _ _ _ _).two
  obtain ⟨hx, hb, hml, hown, hts, hX, hbl, hev, hY⟩ := id C
  refine lv_aload_n hx hb dL_law_299 rfl (lv_at hl 1 rfl) ?_
  refine law_ld C hS hl hL (k := 1) (by omega) (by decide) dL_law_300 dL_law_301 dL_law_302 dL_law_303 dL_law_304 ?_
  refine law_ld C hS hl hL (k := 2) (by omega) (by decide) dL_law_305 dL_law_306 dL_law_307 dL_law_308 dL_law_309 ?_
  refine law_ld C hS hl hL (k := 3) (by omega) (by decide) dL_law_310 dL_law_311 dL_law_312 dL_law_313 dL_law_314 ?_
  refine law_c4 (n := 3) (st := []) C hS hP hD hl.1 h4 gL_law_X4_walk rfl (by decide +kernel) (by decide) rfl rfl (Nat.le_of_ble_eq_true rfl) dL_law_315 (fun H locs hP hD hS => ?_)
  refine lv_aload_n hx hb dL_law_318 rfl (lv_at hl 2 rfl) ?_
  refine law_ld C hS hl hL (k := 1) (by omega) (by decide) dL_law_319 dL_law_320 dL_law_321 dL_law_322 dL_law_323 ?_
  refine law_ld C hS hl hL (k := 2) (by omega) (by decide) dL_law_324 dL_law_325 dL_law_326 dL_law_327 dL_law_328 ?_
  refine law_ld C hS hl hL (k := 3) (by omega) (by decide) dL_law_329 dL_law_330 dL_law_331 dL_law_332 dL_law_333 ?_
  refine law_c5 (n := 3) (st := [.int r]) C hS hP hD hl.1 h5c gL_law_X5_walk rfl (by decide +kernel) (by decide) rfl rfl (Nat.le_of_ble_eq_true rfl) dL_law_334 (fun H locs hP hD hS => ?_)
  exact lv_icmp_eq (tgt := 826) hx hb dL_law_337 (by decide) (fun _ => kk v2 M2 H locs hR2 hP hD hS) (fun c => absurd rfl c)
theorem lc_pay (C : LC p s m meth c b L xs G ca tL tM) (hA : SlOk A) (hL : L ≤ 2560) (hi : i + 5 ≤ L) (hS : va_S (AA s) s.heap H locs) (hP : va_P G vwCl (LW ca A h5 a5 v M) H) (hD : va_D (AA s) (LW ca A h5 a5 v M)) (hR : Rel A v M) (hl : lv_has ls 4 [(0, .ref b), (1, .ref A.1.1), (2, .ref h5), (3, .int (nI i))])
    (kk : ∀ (v' : VV) (M' : MM) (H1 : Heap) (locs1 : List Loc), Rel A v' M' → va_P G vwCl (LW ca A h5 a5 v' M') H1 → va_D (AA s) (LW ca A h5 a5 v' M') → va_S (AA s) s.heap H1 locs1 → W p l e room_1 s m #[Value.ref b] below meth c H1 locs1 600000 7302250 Q (F0 m 826 ls [])) : W p l e room_1 s m #[Value.ref b] below meth c H locs 600000 7302250 Q (F0 m 342 ls []) := by
  obtain ⟨r, v2, M2, hR2, h4, h5c⟩ := (st_pay hR (xs (i + 1)) : StepAt l G ca tL tM A h5 a5 v M _ _ _ _ _ _).two
  obtain ⟨hx, hb, hml, hown, hts, hX, hbl, hev, hY⟩ := id C
  refine lv_aload_n hx hb dL_law_342 rfl (lv_at hl 1 rfl) ?_
  refine law_ld C hS hl hL (k := 1) (by omega) (by decide) dL_law_343 dL_law_344 dL_law_345 dL_law_346 dL_law_347 ?_
  refine law_c4 (n := 1) (st := []) C hS hP hD hl.1 h4 gL_law_X4_pay rfl (by decide +kernel) (by decide) rfl rfl (Nat.le_of_ble_eq_true rfl) dL_law_348 (fun H locs hP hD hS => ?_)
  refine lv_aload_n hx hb dL_law_351 rfl (lv_at hl 2 rfl) ?_
  refine law_ld C hS hl hL (k := 1) (by omega) (by decide) dL_law_352 dL_law_353 dL_law_354 dL_law_355 dL_law_356 ?_
  refine law_c5 (n := 1) (st := [.int r]) C hS hP hD hl.1 h5c gL_law_X5_pay rfl (by decide +kernel) (by decide) rfl rfl (Nat.le_of_ble_eq_true rfl) dL_law_357 (fun H locs hP hD hS => ?_)
  exact lv_icmp_eq (tgt := 826) hx hb dL_law_360 (by decide) (fun _ => kk v2 M2 H locs hR2 hP hD hS) (fun c => absurd rfl c)
theorem lc_pass (C : LC p s m meth c b L xs G ca tL tM) (hA : SlOk A) (hL : L ≤ 2560) (hi : i + 5 ≤ L) (hS : va_S (AA s) s.heap H locs) (hP : va_P G vwCl (LW ca A h5 a5 v M) H) (hD : va_D (AA s) (LW ca A h5 a5 v M)) (hR : Rel A v M) (hl : lv_has ls 4 [(0, .ref b), (1, .ref A.1.1), (2, .ref h5), (3, .int (nI i))])
    (kk : ∀ (v' : VV) (M' : MM) (H1 : Heap) (locs1 : List Loc), Rel A v' M' → va_P G vwCl (LW ca A h5 a5 v' M') H1 → va_D (AA s) (LW ca A h5 a5 v' M') → va_S (AA s) s.heap H1 locs1 → W p l e room_1 s m #[Value.ref b] below meth c H1 locs1 600000 7302250 Q (F0 m 826 ls [])) : W p l e room_1 s m #[Value.ref b] below meth c H locs 600000 7302250 Q (F0 m 365 ls []) := by
  obtain ⟨r, v2, M2, hR2, h4, h5c⟩ := (st_pass hR (xs (i + 1)) : StepAt l G ca tL tM A h5 a5 v M _ _ _ _ _ _).two
  obtain ⟨hx, hb, hml, hown, hts, hX, hbl, hev, hY⟩ := id C
  refine lv_aload_n hx hb dL_law_365 rfl (lv_at hl 1 rfl) ?_
  refine law_ld C hS hl hL (k := 1) (by omega) (by decide) dL_law_366 dL_law_367 dL_law_368 dL_law_369 dL_law_370 ?_
  refine law_c4 (n := 1) (st := []) C hS hP hD hl.1 h4 gL_law_X4_pass rfl (by decide +kernel) (by decide) rfl rfl (Nat.le_of_ble_eq_true rfl) dL_law_371 (fun H locs hP hD hS => ?_)
  refine lv_aload_n hx hb dL_law_374 rfl (lv_at hl 2 rfl) ?_
  refine law_ld C hS hl hL (k := 1) (by omega) (by decide) dL_law_375 dL_law_376 dL_law_377 dL_law_378 dL_law_379 ?_
  refine law_c5 (n := 1) (st := [.int r]) C hS hP hD hl.1 h5c gL_law_X5_pass rfl (by decide +kernel) (by decide) rfl rfl (Nat.le_of_ble_eq_true rfl) dL_law_380 (fun H locs hP hD hS => ?_)
  exact lv_icmp_eq (tgt := 826) hx hb dL_law_383 (by decide) (fun _ => kk v2 M2 H locs hR2 hP hD hS) (fun c => absurd rfl c)
theorem lc_read (C : LC p s m meth c b L xs G ca tL tM) (hA : SlOk A) (hL : L ≤ 2560) (hi : i + 5 ≤ L) (hS : va_S (AA s) s.heap H locs) (hP : va_P G vwCl (LW ca A h5 a5 v M) H) (hD : va_D (AA s) (LW ca A h5 a5 v M)) (hR : Rel A v M) (hl : lv_has ls 4 [(0, .ref b), (1, .ref A.1.1), (2, .ref h5), (3, .int (nI i))])
    (kk : ∀ (v' : VV) (M' : MM) (H1 : Heap) (locs1 : List Loc), Rel A v' M' → va_P G vwCl (LW ca A h5 a5 v' M') H1 → va_D (AA s) (LW ca A h5 a5 v' M') → va_S (AA s) s.heap H1 locs1 → W p l e room_1 s m #[Value.ref b] below meth c H1 locs1 600000 7302250 Q (F0 m 826 ls [])) : W p l e room_1 s m #[Value.ref b] below meth c H locs 600000 7302250 Q (F0 m 388 ls []) := by
  obtain ⟨r, v2, M2, hR2, h4, h5c⟩ := (st_read hR : StepAt l G ca tL tM A h5 a5 v M _ _ _ _ _ _).two
  obtain ⟨hx, hb, hml, hown, hts, hX, hbl, hev, hY⟩ := id C
  refine lv_aload_n hx hb dL_law_388 rfl (lv_at hl 1 rfl) ?_
  refine law_c4 (n := 0) (st := []) C hS hP hD hl.1 h4 gL_law_X4_read rfl (by decide +kernel) (by decide) rfl rfl (Nat.le_of_ble_eq_true rfl) dL_law_389 (fun H locs hP hD hS => ?_)
  refine lv_aload_n hx hb dL_law_392 rfl (lv_at hl 2 rfl) ?_
  refine law_c5 (n := 0) (st := [.int r]) C hS hP hD hl.1 h5c gL_law_X5_read rfl (by decide +kernel) (by decide) rfl rfl (Nat.le_of_ble_eq_true rfl) dL_law_393 (fun H locs hP hD hS => ?_)
  exact lv_icmp_eq (tgt := 826) hx hb dL_law_396 (by decide) (fun _ => kk v2 M2 H locs hR2 hP hD hS) (fun c => absurd rfl c)
theorem lc_puddle (C : LC p s m meth c b L xs G ca tL tM) (hA : SlOk A) (hL : L ≤ 2560) (hi : i + 5 ≤ L) (hS : va_S (AA s) s.heap H locs) (hP : va_P G vwCl (LW ca A h5 a5 v M) H) (hD : va_D (AA s) (LW ca A h5 a5 v M)) (hR : Rel A v M) (hl : lv_has ls 4 [(0, .ref b), (1, .ref A.1.1), (2, .ref h5), (3, .int (nI i))])
    (kk : ∀ (v' : VV) (M' : MM) (H1 : Heap) (locs1 : List Loc), Rel A v' M' → va_P G vwCl (LW ca A h5 a5 v' M') H1 → va_D (AA s) (LW ca A h5 a5 v' M') → va_S (AA s) s.heap H1 locs1 → W p l e room_1 s m #[Value.ref b] below meth c H1 locs1 600000 7302250 Q (F0 m 826 ls [])) : W p l e room_1 s m #[Value.ref b] below meth c H locs 600000 7302250 Q (F0 m 401 ls []) := by
  obtain ⟨r, v2, M2, hR2, h4, h5c⟩ := (st_puddle hR (xs (i + 1)) (xs (i + 2)) : StepAt l G ca tL tM A h5 a5 v M _ _ _ _ _ _).two
  obtain ⟨hx, hb, hml, hown, hts, hX, hbl, hev, hY⟩ := id C
  refine lv_aload_n hx hb dL_law_401 rfl (lv_at hl 1 rfl) ?_
  refine law_ld C hS hl hL (k := 1) (by omega) (by decide) dL_law_402 dL_law_403 dL_law_404 dL_law_405 dL_law_406 ?_
  refine law_ld C hS hl hL (k := 2) (by omega) (by decide) dL_law_407 dL_law_408 dL_law_409 dL_law_410 dL_law_411 ?_
  refine law_c4 (n := 2) (st := []) C hS hP hD hl.1 h4 gL_law_X4_puddle rfl (by decide +kernel) (by decide) rfl rfl (Nat.le_of_ble_eq_true rfl) dL_law_412 (fun H locs hP hD hS => ?_)
  refine lv_aload_n hx hb dL_law_415 rfl (lv_at hl 2 rfl) ?_
  refine law_ld C hS hl hL (k := 1) (by omega) (by decide) dL_law_416 dL_law_417 dL_law_418 dL_law_419 dL_law_420 ?_
  refine law_ld C hS hl hL (k := 2) (by omega) (by decide) dL_law_421 dL_law_422 dL_law_423 dL_law_424 dL_law_425 ?_
  refine law_c5 (n := 2) (st := [.int r]) C hS hP hD hl.1 h5c gL_law_X5_puddle rfl (by decide +kernel) (by decide) rfl rfl (Nat.le_of_ble_eq_true rfl) dL_law_426 (fun H locs hP hD hS => ?_)
  exact lv_icmp_eq (tgt := 826) hx hb dL_law_429 (by decide) (fun _ => kk v2 M2 H locs hR2 hP hD hS) (fun c => absurd rfl c)
theorem lc_walker (C : LC p s m meth c b L xs G ca tL tM) (hA : SlOk A) (hL : L ≤ 2560) (hi : i + 5 ≤ L) (hS : va_S (AA s) s.heap H locs) (hP : va_P G vwCl (LW ca A h5 a5 v M) H) (hD : va_D (AA s) (LW ca A h5 a5 v M)) (hR : Rel A v M) (hl : lv_has ls 4 [(0, .ref b), (1, .ref A.1.1), (2, .ref h5), (3, .int (nI i))])
    (kk : ∀ (v' : VV) (M' : MM) (H1 : Heap) (locs1 : List Loc), Rel A v' M' → va_P G vwCl (LW ca A h5 a5 v' M') H1 → va_D (AA s) (LW ca A h5 a5 v' M') → va_S (AA s) s.heap H1 locs1 → W p l e room_1 s m #[Value.ref b] below meth c H1 locs1 600000 7302250 Q (F0 m 826 ls [])) : W p l e room_1 s m #[Value.ref b] below meth c H locs 600000 7302250 Q (F0 m 434 ls []) := by
  obtain ⟨r, v2, M2, hR2, h4, h5c⟩ := (st_walker hR (xs (i + 1)) (xs (i + 2)) : StepAt l G ca tL tM A h5 a5 v M _ _ _ _ _ _).two
  obtain ⟨hx, hb, hml, hown, hts, hX, hbl, hev, hY⟩ := id C
  refine lv_aload_n hx hb dL_law_434 rfl (lv_at hl 1 rfl) ?_
  refine law_ld C hS hl hL (k := 1) (by omega) (by decide) dL_law_435 dL_law_436 dL_law_437 dL_law_438 dL_law_439 ?_
  refine law_ld C hS hl hL (k := 2) (by omega) (by decide) dL_law_440 dL_law_441 dL_law_442 dL_law_443 dL_law_444 ?_
  refine law_c4 (n := 2) (st := []) C hS hP hD hl.1 h4 gL_law_X4_walker rfl (by decide +kernel) (by decide) rfl rfl (Nat.le_of_ble_eq_true rfl) dL_law_445 (fun H locs hP hD hS => ?_)
  refine lv_aload_n hx hb dL_law_448 rfl (lv_at hl 2 rfl) ?_
  refine law_ld C hS hl hL (k := 1) (by omega) (by decide) dL_law_449 dL_law_450 dL_law_451 dL_law_452 dL_law_453 ?_
  refine law_ld C hS hl hL (k := 2) (by omega) (by decide) dL_law_454 dL_law_455 dL_law_456 dL_law_457 dL_law_458 ?_
  refine law_c5 (n := 2) (st := [.int r]) C hS hP hD hl.1 h5c gL_law_X5_walker rfl (by decide +kernel) (by decide) rfl rfl (Nat.le_of_ble_eq_true rfl) dL_law_459 (fun H locs hP hD hS => ?_)
  exact lv_icmp_eq (tgt := 826) hx hb dL_law_462 (by decide) (fun _ => kk v2 M2 H locs hR2 hP hD hS) (fun c => absurd rfl c)
theorem lc_why (C : LC p s m meth c b L xs G ca tL tM) (hA : SlOk A) (hL : L ≤ 2560) (hi : i + 5 ≤ L) (hS : va_S (AA s) s.heap H locs) (hP : va_P G vwCl (LW ca A h5 a5 v M) H) (hD : va_D (AA s) (LW ca A h5 a5 v M)) (hR : Rel A v M) (hl : lv_has ls 4 [(0, .ref b), (1, .ref A.1.1), (2, .ref h5), (3, .int (nI i))])
    (kk : ∀ (v' : VV) (M' : MM) (H1 : Heap) (locs1 : List Loc), Rel A v' M' → va_P G vwCl (LW ca A h5 a5 v' M') H1 → va_D (AA s) (LW ca A h5 a5 v' M') → va_S (AA s) s.heap H1 locs1 → W p l e room_1 s m #[Value.ref b] below meth c H1 locs1 600000 7302250 Q (F0 m 826 ls [])) : W p l e room_1 s m #[Value.ref b] below meth c H locs 600000 7302250 Q (F0 m 467 ls []) := by
  obtain ⟨r, v2, M2, hR2, h4, h5c⟩ := (st_why hR (xs (i + 1)) (xs (i + 2)) : StepAt l G ca tL tM A h5 a5 v M _ _ _ _ _ _).two
  obtain ⟨hx, hb, hml, hown, hts, hX, hbl, hev, hY⟩ := id C
  refine lv_aload_n hx hb dL_law_467 rfl (lv_at hl 1 rfl) ?_
  refine law_ld C hS hl hL (k := 1) (by omega) (by decide) dL_law_468 dL_law_469 dL_law_470 dL_law_471 dL_law_472 ?_
  refine law_ld C hS hl hL (k := 2) (by omega) (by decide) dL_law_473 dL_law_474 dL_law_475 dL_law_476 dL_law_477 ?_
  refine law_c4 (n := 2) (st := []) C hS hP hD hl.1 h4 gL_law_X4_why rfl (by decide +kernel) (by decide) rfl rfl (Nat.le_of_ble_eq_true rfl) dL_law_478 (fun H locs hP hD hS => ?_)
  refine lv_aload_n hx hb dL_law_481 rfl (lv_at hl 2 rfl) ?_
  refine law_ld C hS hl hL (k := 1) (by omega) (by decide) dL_law_482 dL_law_483 dL_law_484 dL_law_485 dL_law_486 ?_
  refine law_ld C hS hl hL (k := 2) (by omega) (by decide) dL_law_487 dL_law_488 dL_law_489 dL_law_490 dL_law_491 ?_
  refine law_c5 (n := 2) (st := [.int r]) C hS hP hD hl.1 h5c gL_law_X5_why rfl (by decide +kernel) (by decide) rfl rfl (Nat.le_of_ble_eq_true rfl) dL_law_492 (fun H locs hP hD hS => ?_)
  exact lv_icmp_eq (tgt := 826) hx hb dL_law_495 (by decide) (fun _ => kk v2 M2 H locs hR2 hP hD hS) (fun c => absurd rfl c)
theorem lc_holds (C : LC p s m meth c b L xs G ca tL tM) (hA : SlOk A) (hL : L ≤ 2560) (hi : i + 5 ≤ L) (hS : va_S (AA s) s.heap H locs) (hP : va_P G vwCl (LW ca A h5 a5 v M) H) (hD : va_D (AA s) (LW ca A h5 a5 v M)) (hR : Rel A v M) (hl : lv_has ls 4 [(0, .ref b), (1, .ref A.1.1), (2, .ref h5), (3, .int (nI i))])
    (kk : ∀ (v' : VV) (M' : MM) (H1 : Heap) (locs1 : List Loc), Rel A v' M' → va_P G vwCl (LW ca A h5 a5 v' M') H1 → va_D (AA s) (LW ca A h5 a5 v' M') → va_S (AA s) s.heap H1 locs1 → W p l e room_1 s m #[Value.ref b] below meth c H1 locs1 600000 7302250 Q (F0 m 826 ls [])) : W p l e room_1 s m #[Value.ref b] below meth c H locs 600000 7302250 Q (F0 m 500 ls []) := by
  obtain ⟨r, v2, M2, hR2, h4, h5c⟩ := (st_holds hR (xs (i + 1)) (xs (i + 2)) : StepAt l G ca tL tM A h5 a5 v M _ _ _ _ _ _).two
  obtain ⟨hx, hb, hml, hown, hts, hX, hbl, hev, hY⟩ := id C
  refine lv_aload_n hx hb dL_law_500 rfl (lv_at hl 1 rfl) ?_
  refine law_ld C hS hl hL (k := 1) (by omega) (by decide) dL_law_501 dL_law_502 dL_law_503 dL_law_504 dL_law_505 ?_
  refine law_ld C hS hl hL (k := 2) (by omega) (by decide) dL_law_506 dL_law_507 dL_law_508 dL_law_509 dL_law_510 ?_
  refine law_c4 (n := 2) (st := []) C hS hP hD hl.1 h4 gL_law_X4_holds rfl (by decide +kernel) (by decide) rfl rfl (Nat.le_of_ble_eq_true rfl) dL_law_511 (fun H locs hP hD hS => ?_)
  refine lv_aload_n hx hb dL_law_514 rfl (lv_at hl 2 rfl) ?_
  refine law_ld C hS hl hL (k := 1) (by omega) (by decide) dL_law_515 dL_law_516 dL_law_517 dL_law_518 dL_law_519 ?_
  refine law_ld C hS hl hL (k := 2) (by omega) (by decide) dL_law_520 dL_law_521 dL_law_522 dL_law_523 dL_law_524 ?_
  refine law_c5 (n := 2) (st := [.int r]) C hS hP hD hl.1 h5c gL_law_X5_holds rfl (by decide +kernel) (by decide) rfl rfl (Nat.le_of_ble_eq_true rfl) dL_law_525 (fun H locs hP hD hS => ?_)
  exact lv_icmp_eq (tgt := 826) hx hb dL_law_528 (by decide) (fun _ => kk v2 M2 H locs hR2 hP hD hS) (fun c => absurd rfl c)
theorem lc_count (C : LC p s m meth c b L xs G ca tL tM) (hA : SlOk A) (hL : L ≤ 2560) (hi : i + 5 ≤ L) (hS : va_S (AA s) s.heap H locs) (hP : va_P G vwCl (LW ca A h5 a5 v M) H) (hD : va_D (AA s) (LW ca A h5 a5 v M)) (hR : Rel A v M) (hl : lv_has ls 4 [(0, .ref b), (1, .ref A.1.1), (2, .ref h5), (3, .int (nI i))])
    (kk : ∀ (v' : VV) (M' : MM) (H1 : Heap) (locs1 : List Loc), Rel A v' M' → va_P G vwCl (LW ca A h5 a5 v' M') H1 → va_D (AA s) (LW ca A h5 a5 v' M') → va_S (AA s) s.heap H1 locs1 → W p l e room_1 s m #[Value.ref b] below meth c H1 locs1 600000 7302250 Q (F0 m 826 ls [])) : W p l e room_1 s m #[Value.ref b] below meth c H locs 600000 7302250 Q (F0 m 533 ls []) := by
  obtain ⟨r, v2, M2, hR2, h4, h5c⟩ := (st_count hR (xs (i + 1)) : StepAt l G ca tL tM A h5 a5 v M _ _ _ _ _ _).two
  obtain ⟨hx, hb, hml, hown, hts, hX, hbl, hev, hY⟩ := id C
  refine lv_aload_n hx hb dL_law_533 rfl (lv_at hl 1 rfl) ?_
  refine law_ld C hS hl hL (k := 1) (by omega) (by decide) dL_law_534 dL_law_535 dL_law_536 dL_law_537 dL_law_538 ?_
  refine law_c4 (n := 1) (st := []) C hS hP hD hl.1 h4 gL_law_X4_count rfl (by decide +kernel) (by decide) rfl rfl (Nat.le_of_ble_eq_true rfl) dL_law_539 (fun H locs hP hD hS => ?_)
  refine lv_aload_n hx hb dL_law_542 rfl (lv_at hl 2 rfl) ?_
  refine law_ld C hS hl hL (k := 1) (by omega) (by decide) dL_law_543 dL_law_544 dL_law_545 dL_law_546 dL_law_547 ?_
  refine law_c5 (n := 1) (st := [.int r]) C hS hP hD hl.1 h5c gL_law_X5_count rfl (by decide +kernel) (by decide) rfl rfl (Nat.le_of_ble_eq_true rfl) dL_law_548 (fun H locs hP hD hS => ?_)
  exact lv_icmp_eq (tgt := 826) hx hb dL_law_551 (by decide) (fun _ => kk v2 M2 H locs hR2 hP hD hS) (fun c => absurd rfl c)
theorem lc_cost (C : LC p s m meth c b L xs G ca tL tM) (hA : SlOk A) (hL : L ≤ 2560) (hi : i + 5 ≤ L) (hS : va_S (AA s) s.heap H locs) (hP : va_P G vwCl (LW ca A h5 a5 v M) H) (hD : va_D (AA s) (LW ca A h5 a5 v M)) (hR : Rel A v M) (hl : lv_has ls 4 [(0, .ref b), (1, .ref A.1.1), (2, .ref h5), (3, .int (nI i))])
    (kk : ∀ (v' : VV) (M' : MM) (H1 : Heap) (locs1 : List Loc), Rel A v' M' → va_P G vwCl (LW ca A h5 a5 v' M') H1 → va_D (AA s) (LW ca A h5 a5 v' M') → va_S (AA s) s.heap H1 locs1 → W p l e room_1 s m #[Value.ref b] below meth c H1 locs1 600000 7302250 Q (F0 m 826 ls [])) : W p l e room_1 s m #[Value.ref b] below meth c H locs 600000 7302250 Q (F0 m 556 ls []) := by
  obtain ⟨r, v2, M2, hR2, h4, h5c⟩ := (st_cost hR (xs (i + 1)) (xs (i + 2)) (xs (i + 3)) (xs (i + 4)) : StepAt l G ca tL tM A h5 a5 v M _ _ _ _ _ _).two
  obtain ⟨hx, hb, hml, hown, hts, hX, hbl, hev, hY⟩ := id C
  refine lv_aload_n hx hb dL_law_556 rfl (lv_at hl 1 rfl) ?_
  refine law_ld C hS hl hL (k := 1) (by omega) (by decide) dL_law_557 dL_law_558 dL_law_559 dL_law_560 dL_law_561 ?_
  refine law_ld C hS hl hL (k := 2) (by omega) (by decide) dL_law_562 dL_law_563 dL_law_564 dL_law_565 dL_law_566 ?_
  refine law_ld C hS hl hL (k := 3) (by omega) (by decide) dL_law_567 dL_law_568 dL_law_569 dL_law_570 dL_law_571 ?_
  refine law_ld C hS hl hL (k := 4) (by omega) (by decide) dL_law_572 dL_law_573 dL_law_574 dL_law_575 dL_law_576 ?_
  refine law_c4 (n := 4) (st := []) C hS hP hD hl.1 h4 gL_law_X4_cost rfl (by decide +kernel) (by decide) rfl rfl (Nat.le_of_ble_eq_true rfl) dL_law_577 (fun H locs hP hD hS => ?_)
  refine lv_aload_n hx hb dL_law_580 rfl (lv_at hl 2 rfl) ?_
  refine law_ld C hS hl hL (k := 1) (by omega) (by decide) dL_law_581 dL_law_582 dL_law_583 dL_law_584 dL_law_585 ?_
  refine law_ld C hS hl hL (k := 2) (by omega) (by decide) dL_law_586 dL_law_587 dL_law_588 dL_law_589 dL_law_590 ?_
  refine law_ld C hS hl hL (k := 3) (by omega) (by decide) dL_law_591 dL_law_592 dL_law_593 dL_law_594 dL_law_595 ?_
  refine law_ld C hS hl hL (k := 4) (by omega) (by decide) dL_law_596 dL_law_597 dL_law_598 dL_law_599 dL_law_600 ?_
  refine law_c5 (n := 4) (st := [.int r]) C hS hP hD hl.1 h5c gL_law_X5_cost rfl (by decide +kernel) (by decide) rfl rfl (Nat.le_of_ble_eq_true rfl) dL_law_601 (fun H locs hP hD hS => ?_)
  exact lv_icmp_eq (tgt := 826) hx hb dL_law_604 (by decide) (fun _ => kk v2 M2 H locs hR2 hP hD hS) (fun c => absurd rfl c)
theorem lc_untilDry (C : LC p s m meth c b L xs G ca tL tM) (hA : SlOk A) (hL : L ≤ 2560) (hi : i + 5 ≤ L) (hS : va_S (AA s) s.heap H locs) (hP : va_P G vwCl (LW ca A h5 a5 v M) H) (hD : va_D (AA s) (LW ca A h5 a5 v M)) (hR : Rel A v M) (hl : lv_has ls 4 [(0, .ref b), (1, .ref A.1.1), (2, .ref h5), (3, .int (nI i))])
    (kk : ∀ (v' : VV) (M' : MM) (H1 : Heap) (locs1 : List Loc), Rel A v' M' → va_P G vwCl (LW ca A h5 a5 v' M') H1 → va_D (AA s) (LW ca A h5 a5 v' M') → va_S (AA s) s.heap H1 locs1 → W p l e room_1 s m #[Value.ref b] below meth c H1 locs1 600000 7302250 Q (F0 m 826 ls [])) : W p l e room_1 s m #[Value.ref b] below meth c H locs 600000 7302250 Q (F0 m 609 ls []) := by
  obtain ⟨r, v2, M2, hR2, h4, h5c⟩ := (st_untilDry hR (xs (i + 1)) : StepAt l G ca tL tM A h5 a5 v M _ _ _ _ _ _).two
  obtain ⟨hx, hb, hml, hown, hts, hX, hbl, hev, hY⟩ := id C
  refine lv_aload_n hx hb dL_law_609 rfl (lv_at hl 1 rfl) ?_
  refine law_ld C hS hl hL (k := 1) (by omega) (by decide) dL_law_610 dL_law_611 dL_law_612 dL_law_613 dL_law_614 ?_
  refine law_c4 (n := 1) (st := []) C hS hP hD hl.1 h4 gL_law_X4_untilDry rfl (by decide +kernel) (by decide) rfl rfl (Nat.le_of_ble_eq_true rfl) dL_law_615 (fun H locs hP hD hS => ?_)
  refine lv_aload_n hx hb dL_law_618 rfl (lv_at hl 2 rfl) ?_
  refine law_ld C hS hl hL (k := 1) (by omega) (by decide) dL_law_619 dL_law_620 dL_law_621 dL_law_622 dL_law_623 ?_
  refine law_c5 (n := 1) (st := [.int r]) C hS hP hD hl.1 h5c gL_law_X5_untilDry rfl (by decide +kernel) (by decide) rfl rfl (Nat.le_of_ble_eq_true rfl) dL_law_624 (fun H locs hP hD hS => ?_)
  exact lv_icmp_eq (tgt := 826) hx hb dL_law_627 (by decide) (fun _ => kk v2 M2 H locs hR2 hP hD hS) (fun c => absurd rfl c)
theorem lc_leastShoes (C : LC p s m meth c b L xs G ca tL tM) (hA : SlOk A) (hL : L ≤ 2560) (hi : i + 5 ≤ L) (hS : va_S (AA s) s.heap H locs) (hP : va_P G vwCl (LW ca A h5 a5 v M) H) (hD : va_D (AA s) (LW ca A h5 a5 v M)) (hR : Rel A v M) (hl : lv_has ls 4 [(0, .ref b), (1, .ref A.1.1), (2, .ref h5), (3, .int (nI i))])
    (kk : ∀ (v' : VV) (M' : MM) (H1 : Heap) (locs1 : List Loc), Rel A v' M' → va_P G vwCl (LW ca A h5 a5 v' M') H1 → va_D (AA s) (LW ca A h5 a5 v' M') → va_S (AA s) s.heap H1 locs1 → W p l e room_1 s m #[Value.ref b] below meth c H1 locs1 600000 7302250 Q (F0 m 826 ls [])) : W p l e room_1 s m #[Value.ref b] below meth c H locs 600000 7302250 Q (F0 m 632 ls []) := by
  obtain ⟨r, v2, M2, hR2, h4, h5c⟩ := (st_leastShoes hR (xs (i + 1)) : StepAt l G ca tL tM A h5 a5 v M _ _ _ _ _ _).two
  obtain ⟨hx, hb, hml, hown, hts, hX, hbl, hev, hY⟩ := id C
  refine lv_aload_n hx hb dL_law_632 rfl (lv_at hl 1 rfl) ?_
  refine law_ld C hS hl hL (k := 1) (by omega) (by decide) dL_law_633 dL_law_634 dL_law_635 dL_law_636 dL_law_637 ?_
  refine law_c4 (n := 1) (st := []) C hS hP hD hl.1 h4 gL_law_X4_leastShoes rfl (by decide +kernel) (by decide) rfl rfl (Nat.le_of_ble_eq_true rfl) dL_law_638 (fun H locs hP hD hS => ?_)
  refine lv_aload_n hx hb dL_law_641 rfl (lv_at hl 2 rfl) ?_
  refine law_ld C hS hl hL (k := 1) (by omega) (by decide) dL_law_642 dL_law_643 dL_law_644 dL_law_645 dL_law_646 ?_
  refine law_c5 (n := 1) (st := [.int r]) C hS hP hD hl.1 h5c gL_law_X5_leastShoes rfl (by decide +kernel) (by decide) rfl rfl (Nat.le_of_ble_eq_true rfl) dL_law_647 (fun H locs hP hD hS => ?_)
  exact lv_icmp_eq (tgt := 826) hx hb dL_law_650 (by decide) (fun _ => kk v2 M2 H locs hR2 hP hD hS) (fun c => absurd rfl c)
theorem lc_longestWalk (C : LC p s m meth c b L xs G ca tL tM) (hA : SlOk A) (hL : L ≤ 2560) (hi : i + 5 ≤ L) (hS : va_S (AA s) s.heap H locs) (hP : va_P G vwCl (LW ca A h5 a5 v M) H) (hD : va_D (AA s) (LW ca A h5 a5 v M)) (hR : Rel A v M) (hl : lv_has ls 4 [(0, .ref b), (1, .ref A.1.1), (2, .ref h5), (3, .int (nI i))])
    (kk : ∀ (v' : VV) (M' : MM) (H1 : Heap) (locs1 : List Loc), Rel A v' M' → va_P G vwCl (LW ca A h5 a5 v' M') H1 → va_D (AA s) (LW ca A h5 a5 v' M') → va_S (AA s) s.heap H1 locs1 → W p l e room_1 s m #[Value.ref b] below meth c H1 locs1 600000 7302250 Q (F0 m 826 ls [])) : W p l e room_1 s m #[Value.ref b] below meth c H locs 600000 7302250 Q (F0 m 655 ls []) := by
  obtain ⟨r, v2, M2, hR2, h4, h5c⟩ := (st_longestWalk hR (xs (i + 1)) (xs (i + 2)) : StepAt l G ca tL tM A h5 a5 v M _ _ _ _ _ _).two
  obtain ⟨hx, hb, hml, hown, hts, hX, hbl, hev, hY⟩ := id C
  refine lv_aload_n hx hb dL_law_655 rfl (lv_at hl 1 rfl) ?_
  refine law_ld C hS hl hL (k := 1) (by omega) (by decide) dL_law_656 dL_law_657 dL_law_658 dL_law_659 dL_law_660 ?_
  refine law_ld C hS hl hL (k := 2) (by omega) (by decide) dL_law_661 dL_law_662 dL_law_663 dL_law_664 dL_law_665 ?_
  refine law_c4 (n := 2) (st := []) C hS hP hD hl.1 h4 gL_law_X4_longestWalk rfl (by decide +kernel) (by decide) rfl rfl (Nat.le_of_ble_eq_true rfl) dL_law_666 (fun H locs hP hD hS => ?_)
  refine lv_aload_n hx hb dL_law_669 rfl (lv_at hl 2 rfl) ?_
  refine law_ld C hS hl hL (k := 1) (by omega) (by decide) dL_law_670 dL_law_671 dL_law_672 dL_law_673 dL_law_674 ?_
  refine law_ld C hS hl hL (k := 2) (by omega) (by decide) dL_law_675 dL_law_676 dL_law_677 dL_law_678 dL_law_679 ?_
  refine law_c5 (n := 2) (st := [.int r]) C hS hP hD hl.1 h5c gL_law_X5_longestWalk rfl (by decide +kernel) (by decide) rfl rfl (Nat.le_of_ble_eq_true rfl) dL_law_680 (fun H locs hP hD hS => ?_)
  exact lv_icmp_eq (tgt := 826) hx hb dL_law_683 (by decide) (fun _ => kk v2 M2 H locs hR2 hP hD hS) (fun c => absurd rfl c)
theorem lc_put (C : LC p s m meth c b L xs G ca tL tM) (hA : SlOk A) (hL : L ≤ 2560) (hi : i + 5 ≤ L) (hS : va_S (AA s) s.heap H locs) (hP : va_P G vwCl (LW ca A h5 a5 v M) H) (hD : va_D (AA s) (LW ca A h5 a5 v M)) (hR : Rel A v M) (hl : lv_has ls 4 [(0, .ref b), (1, .ref A.1.1), (2, .ref h5), (3, .int (nI i))])
    (kk : ∀ (v' : VV) (M' : MM) (H1 : Heap) (locs1 : List Loc), Rel A v' M' → va_P G vwCl (LW ca A h5 a5 v' M') H1 → va_D (AA s) (LW ca A h5 a5 v' M') → va_S (AA s) s.heap H1 locs1 → W p l e room_1 s m #[Value.ref b] below meth c H1 locs1 600000 7302250 Q (F0 m 826 ls [])) : W p l e room_1 s m #[Value.ref b] below meth c H locs 600000 7302250 Q (F0 m 688 ls []) := by
  obtain ⟨r, v2, M2, hR2, h4, h5c⟩ := (st_put hR ((xs (i + 1)).toInt64 <<< ((32 : Int32).toInt64 &&& 63) ||| ((xs (i + 2)).toInt64 &&& 4294967295)) : StepAt l G ca tL tM A h5 a5 v M _ _ _ _ _ _).two
  obtain ⟨hx, hb, hml, hown, hts, hX, hbl, hev, hY⟩ := id C
  refine lv_aload_n hx hb dL_law_688 rfl (lv_at hl 1 rfl) ?_
  refine law_ld C hS hl hL (k := 1) (by omega) (by decide) dL_law_689 dL_law_690 dL_law_691 dL_law_692 dL_law_693 ?_
  refine lv_i2l hx hb dL_law_694 rfl ?_
  refine lv_bipush (v := 32) hx hb dL_law_695 (by decide) ?_
  refine lv_lshl hx hb dL_law_697 rfl ?_
  refine law_ld C hS hl hL (k := 2) (by omega) (by decide) dL_law_698 dL_law_699 dL_law_700 dL_law_701 dL_law_702 ?_
  refine lv_i2l hx hb dL_law_703 rfl ?_
  refine lv_ldc2 (v := 4294967295) hx hb hown (hts (.constantLong RL 90 4294967295) (List.mem_append_left _ (List.mem_append_left _ (List.mem_append_left _ (List.mem_append_left _ (List.mem_append_left _ (List.mem_append_left _ (List.mem_append_left _ (List.mem_append_left _ (by decide +kernel))))))))))  dL_law_704 ?_
  refine lv_land hx hb dL_law_707 ?_
  refine lv_lor hx hb dL_law_708 ?_
  refine law_c4 (n := 1) (st := []) C hS hP hD hl.1 h4 gL_law_X4_put rfl (by decide +kernel) (by decide) rfl rfl (Nat.le_of_ble_eq_true rfl) dL_law_709 (fun H locs hP hD hS => ?_)
  refine lv_aload_n hx hb dL_law_712 rfl (lv_at hl 2 rfl) ?_
  refine law_ld C hS hl hL (k := 1) (by omega) (by decide) dL_law_713 dL_law_714 dL_law_715 dL_law_716 dL_law_717 ?_
  refine lv_i2l hx hb dL_law_718 rfl ?_
  refine lv_bipush (v := 32) hx hb dL_law_719 (by decide) ?_
  refine lv_lshl hx hb dL_law_721 rfl ?_
  refine law_ld C hS hl hL (k := 2) (by omega) (by decide) dL_law_722 dL_law_723 dL_law_724 dL_law_725 dL_law_726 ?_
  refine lv_i2l hx hb dL_law_727 rfl ?_
  refine lv_ldc2 (v := 4294967295) hx hb hown (hts (.constantLong RL 90 4294967295) (List.mem_append_left _ (List.mem_append_left _ (List.mem_append_left _ (List.mem_append_left _ (List.mem_append_left _ (List.mem_append_left _ (List.mem_append_left _ (List.mem_append_left _ (by decide +kernel))))))))))  dL_law_728 ?_
  refine lv_land hx hb dL_law_731 ?_
  refine lv_lor hx hb dL_law_732 ?_
  refine law_c5 (n := 1) (st := [.int r]) C hS hP hD hl.1 h5c gL_law_X5_put rfl (by decide +kernel) (by decide) rfl rfl (Nat.le_of_ble_eq_true rfl) dL_law_733 (fun H locs hP hD hS => ?_)
  exact lv_icmp_eq (tgt := 826) hx hb dL_law_736 (by decide) (fun _ => kk v2 M2 H locs hR2 hP hD hS) (fun c => absurd rfl c)
theorem lc_wipe (C : LC p s m meth c b L xs G ca tL tM) (hA : SlOk A) (hL : L ≤ 2560) (hi : i + 5 ≤ L) (hS : va_S (AA s) s.heap H locs) (hP : va_P G vwCl (LW ca A h5 a5 v M) H) (hD : va_D (AA s) (LW ca A h5 a5 v M)) (hR : Rel A v M) (hl : lv_has ls 4 [(0, .ref b), (1, .ref A.1.1), (2, .ref h5), (3, .int (nI i))])
    (kk : ∀ (v' : VV) (M' : MM) (H1 : Heap) (locs1 : List Loc), Rel A v' M' → va_P G vwCl (LW ca A h5 a5 v' M') H1 → va_D (AA s) (LW ca A h5 a5 v' M') → va_S (AA s) s.heap H1 locs1 → W p l e room_1 s m #[Value.ref b] below meth c H1 locs1 600000 7302250 Q (F0 m 826 ls [])) : W p l e room_1 s m #[Value.ref b] below meth c H locs 600000 7302250 Q (F0 m 741 ls []) := by
  obtain ⟨r, v2, M2, hR2, h4, h5c⟩ := (st_wipe hR : StepAt l G ca tL tM A h5 a5 v M _ _ _ _ _ _).two
  obtain ⟨hx, hb, hml, hown, hts, hX, hbl, hev, hY⟩ := id C
  refine lv_aload_n hx hb dL_law_741 rfl (lv_at hl 1 rfl) ?_
  refine law_c4 (n := 0) (st := []) C hS hP hD hl.1 h4 gL_law_X4_wipe rfl (by decide +kernel) (by decide) rfl rfl (Nat.le_of_ble_eq_true rfl) dL_law_742 (fun H locs hP hD hS => ?_)
  refine lv_aload_n hx hb dL_law_745 rfl (lv_at hl 2 rfl) ?_
  refine law_c5 (n := 0) (st := [.int r]) C hS hP hD hl.1 h5c gL_law_X5_wipe rfl (by decide +kernel) (by decide) rfl rfl (Nat.le_of_ble_eq_true rfl) dL_law_746 (fun H locs hP hD hS => ?_)
  exact lv_icmp_eq (tgt := 826) hx hb dL_law_749 (by decide) (fun _ => kk v2 M2 H locs hR2 hP hD hS) (fun c => absurd rfl c)
theorem lc_fault (C : LC p s m meth c b L xs G ca tL tM) (hA : SlOk A) (hL : L ≤ 2560) (hi : i + 5 ≤ L) (hS : va_S (AA s) s.heap H locs) (hP : va_P G vwCl (LW ca A h5 a5 v M) H) (hD : va_D (AA s) (LW ca A h5 a5 v M)) (hR : Rel A v M) (hl : lv_has ls 4 [(0, .ref b), (1, .ref A.1.1), (2, .ref h5), (3, .int (nI i))])
    (kk : ∀ (v' : VV) (M' : MM) (H1 : Heap) (locs1 : List Loc), Rel A v' M' → va_P G vwCl (LW ca A h5 a5 v' M') H1 → va_D (AA s) (LW ca A h5 a5 v' M') → va_S (AA s) s.heap H1 locs1 → W p l e room_1 s m #[Value.ref b] below meth c H1 locs1 600000 7302250 Q (F0 m 826 ls [])) : W p l e room_1 s m #[Value.ref b] below meth c H locs 600000 7302250 Q (F0 m 754 ls []) := by
  obtain ⟨r, v2, M2, hR2, h4, h5c⟩ := (st_fault hR : StepAt l G ca tL tM A h5 a5 v M _ _ _ _ _ _).two
  obtain ⟨hx, hb, hml, hown, hts, hX, hbl, hev, hY⟩ := id C
  refine lv_aload_n hx hb dL_law_754 rfl (lv_at hl 1 rfl) ?_
  refine law_c4 (n := 0) (st := []) C hS hP hD hl.1 h4 gL_law_X4_fault rfl (by decide +kernel) (by decide) rfl rfl (Nat.le_of_ble_eq_true rfl) dL_law_755 (fun H locs hP hD hS => ?_)
  refine lv_aload_n hx hb dL_law_758 rfl (lv_at hl 2 rfl) ?_
  refine law_c5 (n := 0) (st := [.int r]) C hS hP hD hl.1 h5c gL_law_X5_fault rfl (by decide +kernel) (by decide) rfl rfl (Nat.le_of_ble_eq_true rfl) dL_law_759 (fun H locs hP hD hS => ?_)
  exact lv_icmp_eq (tgt := 826) hx hb dL_law_762 (by decide) (fun _ => kk v2 M2 H locs hR2 hP hD hS) (fun c => absurd rfl c)
theorem lc_undo (C : LC p s m meth c b L xs G ca tL tM) (hA : SlOk A) (hL : L ≤ 2560) (hi : i + 5 ≤ L) (hS : va_S (AA s) s.heap H locs) (hP : va_P G vwCl (LW ca A h5 a5 v M) H) (hD : va_D (AA s) (LW ca A h5 a5 v M)) (hR : Rel A v M) (hl : lv_has ls 4 [(0, .ref b), (1, .ref A.1.1), (2, .ref h5), (3, .int (nI i))])
    (kk : ∀ (v' : VV) (M' : MM) (H1 : Heap) (locs1 : List Loc), Rel A v' M' → va_P G vwCl (LW ca A h5 a5 v' M') H1 → va_D (AA s) (LW ca A h5 a5 v' M') → va_S (AA s) s.heap H1 locs1 → W p l e room_1 s m #[Value.ref b] below meth c H1 locs1 600000 7302250 Q (F0 m 826 ls [])) : W p l e room_1 s m #[Value.ref b] below meth c H locs 600000 7302250 Q (F0 m 767 ls []) := by
  obtain ⟨r, v2, M2, hR2, h4, h5c⟩ := (st_undo hR : StepAt l G ca tL tM A h5 a5 v M _ _ _ _ _ _).two
  obtain ⟨hx, hb, hml, hown, hts, hX, hbl, hev, hY⟩ := id C
  refine lv_aload_n hx hb dL_law_767 rfl (lv_at hl 1 rfl) ?_
  refine law_c4 (n := 0) (st := []) C hS hP hD hl.1 h4 gL_law_X4_undo rfl (by decide +kernel) (by decide) rfl rfl (Nat.le_of_ble_eq_true rfl) dL_law_768 (fun H locs hP hD hS => ?_)
  refine lv_aload_n hx hb dL_law_771 rfl (lv_at hl 2 rfl) ?_
  refine law_c5 (n := 0) (st := [.int r]) C hS hP hD hl.1 h5c gL_law_X5_undo rfl (by decide +kernel) (by decide) rfl rfl (Nat.le_of_ble_eq_true rfl) dL_law_772 (fun H locs hP hD hS => ?_)
  exact lv_icmp_eq (tgt := 826) hx hb dL_law_775 (by decide) (fun _ => kk v2 M2 H locs hR2 hP hD hS) (fun c => absurd rfl c)
theorem lc_save (C : LC p s m meth c b L xs G ca tL tM) (hA : SlOk A) (hL : L ≤ 2560) (hi : i + 5 ≤ L) (hS : va_S (AA s) s.heap H locs) (hP : va_P G vwCl (LW ca A h5 a5 v M) H) (hD : va_D (AA s) (LW ca A h5 a5 v M)) (hR : Rel A v M) (hl : lv_has ls 4 [(0, .ref b), (1, .ref A.1.1), (2, .ref h5), (3, .int (nI i))])
    (kk : ∀ (v' : VV) (M' : MM) (H1 : Heap) (locs1 : List Loc), Rel A v' M' → va_P G vwCl (LW ca A h5 a5 v' M') H1 → va_D (AA s) (LW ca A h5 a5 v' M') → va_S (AA s) s.heap H1 locs1 → W p l e room_1 s m #[Value.ref b] below meth c H1 locs1 600000 7302250 Q (F0 m 826 ls [])) : W p l e room_1 s m #[Value.ref b] below meth c H locs 600000 7302250 Q (F0 m 780 ls []) := by
  obtain ⟨r, v2, M2, hR2, h4, h5c⟩ := (st_save hR hA (xs (i + 1)) : StepAt l G ca tL tM A h5 a5 v M _ _ _ _ _ _).two
  obtain ⟨hx, hb, hml, hown, hts, hX, hbl, hev, hY⟩ := id C
  refine lv_aload_n hx hb dL_law_780 rfl (lv_at hl 1 rfl) ?_
  refine law_ld C hS hl hL (k := 1) (by omega) (by decide) dL_law_781 dL_law_782 dL_law_783 dL_law_784 dL_law_785 ?_
  refine law_c4 (n := 1) (st := []) C hS hP hD hl.1 h4 gL_law_X4_save rfl (by decide +kernel) (by decide) rfl rfl (Nat.le_of_ble_eq_true rfl) dL_law_786 (fun H locs hP hD hS => ?_)
  refine lv_aload_n hx hb dL_law_789 rfl (lv_at hl 2 rfl) ?_
  refine law_ld C hS hl hL (k := 1) (by omega) (by decide) dL_law_790 dL_law_791 dL_law_792 dL_law_793 dL_law_794 ?_
  refine law_c5 (n := 1) (st := [.int r]) C hS hP hD hl.1 h5c gL_law_X5_save rfl (by decide +kernel) (by decide) rfl rfl (Nat.le_of_ble_eq_true rfl) dL_law_795 (fun H locs hP hD hS => ?_)
  exact lv_icmp_eq (tgt := 826) hx hb dL_law_798 (by decide) (fun _ => kk v2 M2 H locs hR2 hP hD hS) (fun c => absurd rfl c)
theorem lc_restore (C : LC p s m meth c b L xs G ca tL tM) (hA : SlOk A) (hL : L ≤ 2560) (hi : i + 5 ≤ L) (hS : va_S (AA s) s.heap H locs) (hP : va_P G vwCl (LW ca A h5 a5 v M) H) (hD : va_D (AA s) (LW ca A h5 a5 v M)) (hR : Rel A v M) (hl : lv_has ls 4 [(0, .ref b), (1, .ref A.1.1), (2, .ref h5), (3, .int (nI i))])
    (kk : ∀ (v' : VV) (M' : MM) (H1 : Heap) (locs1 : List Loc), Rel A v' M' → va_P G vwCl (LW ca A h5 a5 v' M') H1 → va_D (AA s) (LW ca A h5 a5 v' M') → va_S (AA s) s.heap H1 locs1 → W p l e room_1 s m #[Value.ref b] below meth c H1 locs1 600000 7302250 Q (F0 m 826 ls [])) : W p l e room_1 s m #[Value.ref b] below meth c H locs 600000 7302250 Q (F0 m 803 ls []) := by
  obtain ⟨r, v2, M2, hR2, h4, h5c⟩ := (st_restore hR hA (xs (i + 1)) : StepAt l G ca tL tM A h5 a5 v M _ _ _ _ _ _).two
  obtain ⟨hx, hb, hml, hown, hts, hX, hbl, hev, hY⟩ := id C
  refine lv_aload_n hx hb dL_law_803 rfl (lv_at hl 1 rfl) ?_
  refine law_ld C hS hl hL (k := 1) (by omega) (by decide) dL_law_804 dL_law_805 dL_law_806 dL_law_807 dL_law_808 ?_
  refine law_c4 (n := 1) (st := []) C hS hP hD hl.1 h4 gL_law_X4_restore rfl (by decide +kernel) (by decide) rfl rfl (Nat.le_of_ble_eq_true rfl) dL_law_809 (fun H locs hP hD hS => ?_)
  refine lv_aload_n hx hb dL_law_812 rfl (lv_at hl 2 rfl) ?_
  refine law_ld C hS hl hL (k := 1) (by omega) (by decide) dL_law_813 dL_law_814 dL_law_815 dL_law_816 dL_law_817 ?_
  refine law_c5 (n := 1) (st := [.int r]) C hS hP hD hl.1 h5c gL_law_X5_restore rfl (by decide +kernel) (by decide) rfl rfl (Nat.le_of_ble_eq_true rfl) dL_law_818 (fun H locs hP hD hS => ?_)
  exact lv_icmp_eq (tgt := 826) hx hb dL_law_821 (by decide) (fun _ => kk v2 M2 H locs hR2 hP hD hS) (fun c => absurd rfl c)
end LAW
