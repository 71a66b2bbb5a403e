/-! the law's helpers: size, cell, seen -/
def rmA : Room := { frames := 7, cells := 0, slots := 0, locals := 180 }
def rmB : Room := { frames := 8, cells := 0, slots := 0, locals := 220 }
theorem hd_set : yX4_set.cls = RX4 ∧ yX4_set.cls ≠ "java/lang/invoke/MethodHandle" ∧ yX4_set.cls ≠ "java/lang/invoke/VarHandle" ∧ (parseMethodDescriptor yX4_set.desc).map (fun d => d.parameters.length) = some 2 := by decide +kernel
theorem hd_brim : yX4_brim.cls = RX4 ∧ yX4_brim.cls ≠ "java/lang/invoke/MethodHandle" ∧ yX4_brim.cls ≠ "java/lang/invoke/VarHandle" ∧ (parseMethodDescriptor yX4_brim.desc).map (fun d => d.parameters.length) = some 2 := by decide +kernel
theorem hd_drain : yX4_drain.cls = RX4 ∧ yX4_drain.cls ≠ "java/lang/invoke/MethodHandle" ∧ yX4_drain.cls ≠ "java/lang/invoke/VarHandle" ∧ (parseMethodDescriptor yX4_drain.desc).map (fun d => d.parameters.length) = some 1 := by decide +kernel
theorem hd_shoes : yX4_shoes.cls = RX4 ∧ yX4_shoes.cls ≠ "java/lang/invoke/MethodHandle" ∧ yX4_shoes.cls ≠ "java/lang/invoke/VarHandle" ∧ (parseMethodDescriptor yX4_shoes.desc).map (fun d => d.parameters.length) = some 2 := by decide +kernel
theorem hd_permit : yX4_permit.cls = RX4 ∧ yX4_permit.cls ≠ "java/lang/invoke/MethodHandle" ∧ yX4_permit.cls ≠ "java/lang/invoke/VarHandle" ∧ (parseMethodDescriptor yX4_permit.desc).map (fun d => d.parameters.length) = some 2 := by decide +kernel
theorem hd_walk : yX4_walk.cls = RX4 ∧ yX4_walk.cls ≠ "java/lang/invoke/MethodHandle" ∧ yX4_walk.cls ≠ "java/lang/invoke/VarHandle" ∧ (parseMethodDescriptor yX4_walk.desc).map (fun d => d.parameters.length) = some 3 := by decide +kernel
theorem hd_pay : yX4_pay.cls = RX4 ∧ yX4_pay.cls ≠ "java/lang/invoke/MethodHandle" ∧ yX4_pay.cls ≠ "java/lang/invoke/VarHandle" ∧ (parseMethodDescriptor yX4_pay.desc).map (fun d => d.parameters.length) = some 1 := by decide +kernel
theorem hd_pass : yX4_pass.cls = RX4 ∧ yX4_pass.cls ≠ "java/lang/invoke/MethodHandle" ∧ yX4_pass.cls ≠ "java/lang/invoke/VarHandle" ∧ (parseMethodDescriptor yX4_pass.desc).map (fun d => d.parameters.length) = some 1 := by decide +kernel
theorem hd_read : yX4_read.cls = RX4 ∧ yX4_read.cls ≠ "java/lang/invoke/MethodHandle" ∧ yX4_read.cls ≠ "java/lang/invoke/VarHandle" ∧ (parseMethodDescriptor yX4_read.desc).map (fun d => d.parameters.length) = some 0 := by decide +kernel
theorem hd_puddle : yX4_puddle.cls = RX4 ∧ yX4_puddle.cls ≠ "java/lang/invoke/MethodHandle" ∧ yX4_puddle.cls ≠ "java/lang/invoke/VarHandle" ∧ (parseMethodDescriptor yX4_puddle.desc).map (fun d => d.parameters.length) = some 2 := by decide +kernel
theorem hd_walker : yX4_walker.cls = RX4 ∧ yX4_walker.cls ≠ "java/lang/invoke/MethodHandle" ∧ yX4_walker.cls ≠ "java/lang/invoke/VarHandle" ∧ (parseMethodDescriptor yX4_walker.desc).map (fun d => d.parameters.length) = some 2 := by decide +kernel
theorem hd_why : yX4_why.cls = RX4 ∧ yX4_why.cls ≠ "java/lang/invoke/MethodHandle" ∧ yX4_why.cls ≠ "java/lang/invoke/VarHandle" ∧ (parseMethodDescriptor yX4_why.desc).map (fun d => d.parameters.length) = some 2 := by decide +kernel
theorem hd_holds : yX4_holds.cls = RX4 ∧ yX4_holds.cls ≠ "java/lang/invoke/MethodHandle" ∧ yX4_holds.cls ≠ "java/lang/invoke/VarHandle" ∧ (parseMethodDescriptor yX4_holds.desc).map (fun d => d.parameters.length) = some 2 := by decide +kernel
theorem hd_count : yX4_count.cls = RX4 ∧ yX4_count.cls ≠ "java/lang/invoke/MethodHandle" ∧ yX4_count.cls ≠ "java/lang/invoke/VarHandle" ∧ (parseMethodDescriptor yX4_count.desc).map (fun d => d.parameters.length) = some 1 := by decide +kernel
theorem hd_cost : yX4_cost.cls = RX4 ∧ yX4_cost.cls ≠ "java/lang/invoke/MethodHandle" ∧ yX4_cost.cls ≠ "java/lang/invoke/VarHandle" ∧ (parseMethodDescriptor yX4_cost.desc).map (fun d => d.parameters.length) = some 4 := by decide +kernel
theorem hd_untilDry : yX4_untilDry.cls = RX4 ∧ yX4_untilDry.cls ≠ "java/lang/invoke/MethodHandle" ∧ yX4_untilDry.cls ≠ "java/lang/invoke/VarHandle" ∧ (parseMethodDescriptor yX4_untilDry.desc).map (fun d => d.parameters.length) = some 1 := by decide +kernel
theorem hd_leastShoes : yX4_leastShoes.cls = RX4 ∧ yX4_leastShoes.cls ≠ "java/lang/invoke/MethodHandle" ∧ yX4_leastShoes.cls ≠ "java/lang/invoke/VarHandle" ∧ (parseMethodDescriptor yX4_leastShoes.desc).map (fun d => d.parameters.length) = some 1 := by decide +kernel
theorem hd_longestWalk : yX4_longestWalk.cls = RX4 ∧ yX4_longestWalk.cls ≠ "java/lang/invoke/MethodHandle" ∧ yX4_longestWalk.cls ≠ "java/lang/invoke/VarHandle" ∧ (parseMethodDescriptor yX4_longestWalk.desc).map (fun d => d.parameters.length) = some 2 := by decide +kernel
theorem hd_wipe : yX4_wipe.cls = RX4 ∧ yX4_wipe.cls ≠ "java/lang/invoke/MethodHandle" ∧ yX4_wipe.cls ≠ "java/lang/invoke/VarHandle" ∧ (parseMethodDescriptor yX4_wipe.desc).map (fun d => d.parameters.length) = some 0 := by decide +kernel
theorem hd_fault : yX4_fault.cls = RX4 ∧ yX4_fault.cls ≠ "java/lang/invoke/MethodHandle" ∧ yX4_fault.cls ≠ "java/lang/invoke/VarHandle" ∧ (parseMethodDescriptor yX4_fault.desc).map (fun d => d.parameters.length) = some 0 := by decide +kernel
theorem hd_undo : yX4_undo.cls = RX4 ∧ yX4_undo.cls ≠ "java/lang/invoke/MethodHandle" ∧ yX4_undo.cls ≠ "java/lang/invoke/VarHandle" ∧ (parseMethodDescriptor yX4_undo.desc).map (fun d => d.parameters.length) = some 0 := by decide +kernel
theorem hd_save : yX4_save.cls = RX4 ∧ yX4_save.cls ≠ "java/lang/invoke/MethodHandle" ∧ yX4_save.cls ≠ "java/lang/invoke/VarHandle" ∧ (parseMethodDescriptor yX4_save.desc).map (fun d => d.parameters.length) = some 1 := by decide +kernel
theorem hd_restore : yX4_restore.cls = RX4 ∧ yX4_restore.cls ≠ "java/lang/invoke/MethodHandle" ∧ yX4_restore.cls ≠ "java/lang/invoke/VarHandle" ∧ (parseMethodDescriptor yX4_restore.desc).map (fun d => d.parameters.length) = some 1 := by decide +kernel
theorem hd_L_size : yL_size.cls ≠ "java/lang/invoke/MethodHandle" ∧ yL_size.cls ≠ "java/lang/invoke/VarHandle" ∧ (parseMethodDescriptor yL_size.desc).map (fun d => d.parameters.length) = some 1 := by decide +kernel
theorem hd_L_seen : yL_seen.cls ≠ "java/lang/invoke/MethodHandle" ∧ yL_seen.cls ≠ "java/lang/invoke/VarHandle" ∧ (parseMethodDescriptor yL_seen.desc).map (fun d => d.parameters.length) = some 1 := by decide +kernel
theorem hd_L_refusesAny : yL_refusesAny.cls ≠ "java/lang/invoke/MethodHandle" ∧ yL_refusesAny.cls ≠ "java/lang/invoke/VarHandle" ∧ (parseMethodDescriptor yL_refusesAny.desc).map (fun d => d.parameters.length) = some 2 := by decide +kernel
theorem hd_L_refuses : yL_refuses.cls ≠ "java/lang/invoke/MethodHandle" ∧ yL_refuses.cls ≠ "java/lang/invoke/VarHandle" ∧ (parseMethodDescriptor yL_refuses.desc).map (fun d => d.parameters.length) = some 2 := by decide +kernel
theorem hd_L_passes : yL_passes.cls ≠ "java/lang/invoke/MethodHandle" ∧ yL_passes.cls ≠ "java/lang/invoke/VarHandle" ∧ (parseMethodDescriptor yL_passes.desc).map (fun d => d.parameters.length) = some 2 := by decide +kernel
theorem hd_L_areAll : yL_areAll.cls ≠ "java/lang/invoke/MethodHandle" ∧ yL_areAll.cls ≠ "java/lang/invoke/VarHandle" ∧ (parseMethodDescriptor yL_areAll.desc).map (fun d => d.parameters.length) = some 1 := by decide +kernel
theorem hd_L_act : yL_act.cls ≠ "java/lang/invoke/MethodHandle" ∧ yL_act.cls ≠ "java/lang/invoke/VarHandle" ∧ (parseMethodDescriptor yL_act.desc).map (fun d => d.parameters.length) = some 2 := by decide +kernel
theorem hd_L_cell : yL_cell.cls ≠ "java/lang/invoke/MethodHandle" ∧ yL_cell.cls ≠ "java/lang/invoke/VarHandle" ∧ (parseMethodDescriptor yL_cell.desc).map (fun d => d.parameters.length) = some 2 := by decide +kernel
set_option maxHeartbeats 4000000 in
theorem c_L_size (l : Launch) (G : va_G) (ca : Nat → ClassId) {m : Nat} (hm : m < 4096) : CtI l yL_size wsL_size ({ frames := 0, cells := 0, slots := 0, locals := 0 }) [.int (nI m)] G ca ([]) ([]) (nI (popN m 12)) := by
  refine CtI.ofW (cc := cL_size) (maxL := 3) (rt := .int) (by decide) rfl (Nat.le_of_ble_eq_true rfl) rfl ?_
  intro pr en s mm be me c A ls Q H hx hb hml hts hown hev hP hD hA hS hl hret
  have hl : lv_has ls 3 [(0, .int (nI m))] := hl
  refine lv_iconst (v := nI 0) hx hb dL_size_0 (by decide) ?_
  refine lv_istore_n (lv' := [(1, .int (nI 0)), (0, .int (nI m))]) hx hb dL_size_1 rfl hl (by decide) rfl (fun ls hl => ?_)
  refine lv_iload_n hx hb dL_size_2 rfl (lv_at hl 1 rfl) ?_
  refine lv_istore_n (lv' := [(2, .int (nI m)), (1, .int (nI 0)), (0, .int (nI m))]) hx hb dL_size_3 rfl hl (by decide) rfl (fun ls hl => ?_)
  have loop : ∀ (n q k : Nat), q ≤ n → q < 4096 → k + popN q 12 = popN m 12 → ∀ (ls : Array Slot), lv_has ls 3 [(2, .int (nI q)), (1, .int (nI k)), (0, .int (nI m))] → W pr l en { frames := 0, cells := 0, slots := 0, locals := 0 } s mm ([.int (nI m)] : List Value).toArray be me c H [] 0 0 Q (F0 mm 4 ls []) := by
    intro n
    induction n with
    | zero =>
      intro q k hq hq2 hk ls hl
      obtain rfl : q = 0 := by omega
      refine lv_iload_n hx hb dL_size_4 rfl (lv_at hl 0 rfl) ?_
      refine lv_if_eq (tgt := 20) hx hb dL_size_5 (by decide) (fun c_1 => ?_) (fun c_1 => ?_)
      · refine lv_iload_n hx hb dL_size_20 rfl (lv_at hl 1 rfl) ?_
        have e : k = popN m 12 := by have : popN 0 12 = 0 := by decide +kernel
                                     omega
        refine lv_eqi (y := nI (popN m 12)) (by rw [e]) ?_
        exact hret _ _ _ _ hP hS dL_size_21
      · exact absurd rfl c_1
    | succ n ih =>
      intro q k hq hq2 hk ls hl
      by_cases z : q = 0
      · subst z; exact ih 0 k (Nat.zero_le _) hq2 hk ls hl
      obtain ⟨e1, e2, e3⟩ := kn_N q hq2 (by omega)
      refine lv_iload_n hx hb dL_size_4 rfl (lv_at hl 0 rfl) ?_
      refine lv_if_eq (tgt := 20) hx hb dL_size_5 (by decide) (fun c_1 => ?_) (fun c_1 => ?_)
      · exact absurd c_1 (nI_ne0 (by omega) (by omega))
      · refine lv_iinc (v := nI (k + 1)) (lv' := [(1, .int (nI (k + 1))), (2, .int (nI q)), (0, .int (nI m))]) hx hb dL_size_8 hl (k := 1) rfl (nI_1 _) (by decide) rfl (fun ls hl => ?_)
        refine lv_iload_n hx hb dL_size_11 rfl (lv_at hl 1 rfl) ?_
        refine lv_iload_n hx hb dL_size_12 rfl (lv_at hl 1 rfl) ?_
        refine lv_iconst (v := nI 1) hx hb dL_size_13 (by decide) ?_
        refine lv_isub hx hb dL_size_14 ?_
        refine lv_iand hx hb dL_size_15 ?_
        refine lv_eqi (y := nI (knN q)) e1 ?_
        refine lv_istore_n (lv' := [(2, .int (nI (knN q))), (1, .int (nI (k + 1))), (0, .int (nI m))]) hx hb dL_size_16 rfl hl (by decide) rfl (fun ls hl => ?_)
        refine lv_goto (tgt := 4) hx hb dL_size_17 (by decide) ?_
        exact ih (knN q) (k + 1) (by omega) (by omega) (by omega) ls hl
  exact loop m m 0 (Nat.le_refl _) hm (Nat.zero_add _) ls hl
/-- what cell answers -/
def celA (L : Nat) (xs : Nat → Int32) (k : Nat) : Int32 := (if k < L then xs k else 1163480516 * (nI k + nI 467) + 86011) &&& 2147483647
theorem cel_N (L : Nat) (xs : Nat → Int32) (k : Nat) : ∃ X, X < 2 ^ 31 ∧ celA L xs k = nI X := by
  unfold celA
  generalize (if k < L then xs k else 1163480516 * (nI k + nI 467) + 86011) = x
  refine ⟨x.toBitVec.toNat % 2 ^ 31, Nat.mod_lt _ (by decide), ?_⟩
  exact pk_and x 31 (by decide)
def pcC (b L : Nat) (xs : Nat → Int32) (k : Nat) (sz : Nat) : Array Value → State → Prop := va_Pc [.ref b, .int (nI k)] (fun U => U.heap.size = sz ∧ va_X b L xs U U.heap ∧ b < U.heap.size)
set_option maxHeartbeats 4000000 in
theorem c_L_cell (l : Launch) {b L k : Nat} {xs : Nat → Int32} (hL : L < 1000) (hk : k < 100) (sz : Nat) : Met l yL_cell wsL_cell { frames := 0, cells := 0, slots := 0, locals := 0 } (pcC b L xs k sz) (va_Qi (fun (r' : Int32) (_ : Unit) => r' = celA L xs k) (fun _ _ => True) (fun q => sz ≤ q)) 0 0 (fun q => sz ≤ q) := by
  refine Met.ofW (cc := cL_cell) (maxL := 2) (ret := some .int) (by decide) rfl ?_
  intro p e s m args below meth c s₁ B hml hv
  obtain ⟨rfl, hsz, hX, hbl⟩ := hv
  have hlocks := B.notSynchronized
  have hr := B.returns
  subst hsz
  have hx := B.exec
  have hb : c.code = cL_cell := B.bytes
  have hts := atoms_spec (ws := wsL_cell) B.pre
  have hown : s.vm.findClass RL = some m.cls := findClass_of_methodNamed B.named
  have hS : va_S (fun q => s.heap.size ≤ q) s.heap s.heap [] := va_S.rf
  have hbA : ¬ (s.heap.size ≤ b) := Nat.not_le.mpr hbl
  have hl := lv_entry ([.ref b, .int (nI k)]) (n := 2) (Nat.le_of_ble_eq_true rfl)
  rw [lg_entry_eq]
  generalize (lg_sl ([.ref b, .int (nI k)]) ++ List.replicate (2 - (lg_sl ([.ref b, .int (nI k)])).length) Slot.unset).toArray = ls at hl ⊢
  have hl : lv_has ls 2 [(0, .ref b), (1, .int (nI k))] := hl
  have fin : ∀ r : Int32, (r &&& 2147483647) = celA L xs k → W p l e (headSpec wsL_cell { frames := 0, cells := 0, slots := 0, locals := 0 }).room s m #[.ref b, .int (nI k)] below meth c s.heap [] 0 0 (MQ below (va_Qi (fun (r' : Int32) (_ : Unit) => r' = celA L xs k) (fun _ _ => True) (fun q => s.heap.size ≤ q)) #[.ref b, .int (nI k)] s 0 0 (fun q => s.heap.size ≤ q)) (F0 m 23 ls [.int r]) := fun r hr2 => by
    refine lv_ldc hx hb hown (hts (.constant RL 9 (2147483647)) (List.mem_of_getElem? (i := 3) rfl)) dL_cell_23 ?_
    refine lv_iand hx hb dL_cell_25 ?_
    exact W.zret hx hb hr rfl (fun t ht _ => ⟨⟨_, (), rfl, hr2, trivial⟩, hS.F ht⟩) hS.2.2 dL_cell_26 hlocks
  refine lv_iload_n hx hb dL_cell_0 rfl (lv_at hl 1 rfl) ?_
  refine lv_aload_n hx hb dL_cell_1 rfl (lv_at hl 0 rfl) ?_
  refine va_slen hx hb hX hbl hbA hS dL_cell_2 ?_
  refine lv_icmp_ge (tgt := 12) hx hb dL_cell_3 (by decide) (fun c_1 => ?_) (fun c_1 => ?_)
  · have n1 : ¬ k < L := fun q => absurd c_1 (nI_ge q (by omega))
    refine lv_ldc hx hb hown (hts (.constant RL 7 (1163480516)) (List.mem_of_getElem? (i := 1) rfl)) dL_cell_12 ?_
    refine lv_iload_n hx hb dL_cell_14 rfl (lv_at hl 1 rfl) ?_
    refine lv_sipush (v := nI 467) hx hb dL_cell_15 (by decide) ?_
    refine lv_iadd hx hb dL_cell_18 ?_
    refine lv_imul hx hb dL_cell_19 ?_
    refine lv_ldc hx hb hown (hts (.constant RL 8 (86011)) (List.mem_of_getElem? (i := 2) rfl)) dL_cell_20 ?_
    refine lv_iadd hx hb dL_cell_22 ?_
    exact fin _ (by unfold celA; rw [if_neg n1])
  · have n1 : k < L := Nat.lt_of_not_le (fun q => c_1 (nI_le q (by omega)))
    refine lv_aload_n hx hb dL_cell_6 rfl (lv_at hl 0 rfl) ?_
    refine lv_iload_n hx hb dL_cell_7 rfl (lv_at hl 1 rfl) ?_
    refine va_sld hx hb hX hbl hbA hS (vp_in_nI n1 (by omega)) dL_cell_8 ?_
    rw [nI_clamp (by omega)]
    refine lv_goto (tgt := 23) hx hb dL_cell_9 (by decide) ?_
    exact fin _ (by unfold celA; rw [if_pos n1])
/-- what seen comes to -/
def sA (S : SS) : Nat → Int64 | 0 => 211 | i + 1 => 31 * sA S i + (cntA S i).toInt64
def sB (S : SS) (n14 : Nat) : Nat → Int64 | 0 => sA S n14 | i + 1 => 31 * (31 * (31 * sB S n14 i + (hldA S (i / 12) (i % 12)).toInt64) + (pudA S (i / 6) (i % 6)).toInt64) + (walA S (i / 12) (i % 6)).toInt64
set_option maxHeartbeats 4000000 in
set_option maxRecDepth 100000 in
theorem c_L_seen (l : Launch) (G : va_G) (ca : Nat → ClassId) (tL tM : Nat) (B : AD) (v : VV) (n14 n72 : Nat) (h14 : n14 = 14) (h72 : n72 = 72) (h0 : v.2.2.1 = 0) : CtL l yL_seen wsL_seen rmA [.ref B.1.1] G ca tL tM (XV ca B v) (sB v.1 n14 n72) := by
  refine CtL.ofW (cc := cL_seen) (maxL := 4) (by decide) rfl (Nat.le_of_ble_eq_true rfl) ?_
  intro pr en s m be me c A ls Q H hx hb hml hts hown hev hP hD hA hS hl hX hret
  have C : HC pr s m c cL_seen ([.ref B.1.1] : List Value).toArray wsL_seen 4 G ca tL tM A := ⟨hx, hb, hml, hown, hts, hev, hX, hA⟩
  have hown : s.vm.findClass RL = some m.cls := hown
  have hl : lv_has ls 4 [(0, .ref B.1.1)] := hl
  refine lv_ldc2 hx hb hown (hts (.constantLong RL 10 (211)) (List.mem_of_getElem? (i := 1) rfl)) dL_seen_0 ?_
  refine lv_lstore_n (lv' := [(1, .long 211), (0, .ref B.1.1)]) hx hb dL_seen_3 rfl hl (by decide) rfl (fun ls hl => ?_)
  refine lv_iconst (v := nI 0) hx hb dL_seen_4 (by decide) ?_
  refine lv_istore_n (lv' := [(3, .int (nI 0)), (1, .long 211), (0, .ref B.1.1)]) hx hb dL_seen_5 rfl hl (by decide) rfl (fun ls hl => ?_)
  have loop_6 : ∀ (n i : Nat), i + n = n14 → ∀ (H : Heap) (locs : List Loc) (ls : Array Slot), va_P G vwCl (XV ca B v) H → va_D A (XV ca B v) → va_S A s.heap H locs → lv_has ls 4 [(0, .ref B.1.1), (1, .long (sA v.1 i)), (3, .int (nI i))] → W pr l en (rmA : Room) s m ([.ref B.1.1] : List Value).toArray be me c H locs 0 0 Q (F0 m 6 ls []) := by
    intro n
    induction n with
    | zero =>
      intro i hi H locs ls hP hD hS hl
      obtain rfl : n14 = i := by omega
      refine lv_iload_n hx hb dL_seen_6 rfl (lv_at hl 2 rfl) ?_
      refine lv_bipush (v := nI 14) hx hb dL_seen_7 (by decide) ?_
      refine lv_icmp_ge (tgt := 31) hx hb dL_seen_9 (by decide) (fun c_1 => ?_) (fun c_1 => ?_)
      · skip
        refine lv_iconst (v := nI 0) hx hb dL_seen_31 (by decide) ?_
        refine lv_istore_n (lv' := [(3, .int (nI 0)), (0, .ref B.1.1), (1, .long (sA v.1 n14))]) hx hb dL_seen_32 rfl hl (by decide) rfl (fun ls hl => ?_)
        have loop_33 : ∀ (n i : Nat), i + n = n72 → ∀ (H : Heap) (locs : List Loc) (ls : Array Slot), va_P G vwCl (XV ca B v) H → va_D A (XV ca B v) → va_S A s.heap H locs → lv_has ls 4 [(0, .ref B.1.1), (1, .long (sB v.1 n14 i)), (3, .int (nI i))] → W pr l en (rmA : Room) s m ([.ref B.1.1] : List Value).toArray be me c H locs 0 0 Q (F0 m 33 ls []) := by
          intro n
          induction n with
          | zero =>
            intro i hi H locs ls hP hD hS hl
            obtain rfl : n72 = i := by omega
            refine lv_iload_n hx hb dL_seen_33 rfl (lv_at hl 2 rfl) ?_
            refine lv_bipush (v := nI 72) hx hb dL_seen_34 (by decide) ?_
            refine lv_icmp_ge (tgt := 101) hx hb dL_seen_36 (by decide) (fun c_2 => ?_) (fun c_2 => ?_)
            · skip
              refine lv_lload_n hx hb dL_seen_101 rfl (lv_at hl 1 rfl) ?_
              exact hret _ _ _ _ hP hS dL_seen_102
            · skip
              exact absurd (nI_le (by omega) (by omega)) c_2
          | succ n ih =>
            intro i hi H locs ls hP hD hS hl
            have hlt : i < n72 := by omega
            refine lv_iload_n hx hb dL_seen_33 rfl (lv_at hl 2 rfl) ?_
            refine lv_bipush (v := nI 72) hx hb dL_seen_34 (by decide) ?_
            refine lv_icmp_ge (tgt := 101) hx hb dL_seen_36 (by decide) (fun c_3 => ?_) (fun c_3 => ?_)
            · skip
              exact absurd c_3 (nI_ge (by omega) (by omega))
            · skip
              refine lv_ldc2 hx hb hown (hts (.constantLong RL 12 (31)) (List.mem_of_getElem? (i := 2) rfl)) dL_seen_39 ?_
              refine lv_ldc2 hx hb hown (hts (.constantLong RL 12 (31)) (List.mem_of_getElem? (i := 2) rfl)) dL_seen_42 ?_
              refine lv_ldc2 hx hb hown (hts (.constantLong RL 12 (31)) (List.mem_of_getElem? (i := 2) rfl)) dL_seen_45 ?_
              refine lv_lload_n hx hb dL_seen_48 rfl (lv_at hl 1 rfl) ?_
              refine lv_lmul hx hb dL_seen_49 ?_
              refine lv_aload_n hx hb dL_seen_50 rfl (lv_at hl 0 rfl) ?_
              refine lv_iload_n hx hb dL_seen_51 rfl (lv_at hl 2 rfl) ?_
              refine lv_bipush (v := nI 12) hx hb dL_seen_52 (by decide) ?_
              refine lv_idiv hx hb dL_seen_54 (by decide) ?_
              refine lv_eqi (pk_div (by omega) (by omega) (by omega)) ?_
              refine lv_iload_n hx hb dL_seen_55 rfl (lv_at hl 2 rfl) ?_
              refine lv_bipush (v := nI 12) hx hb dL_seen_56 (by decide) ?_
              refine lv_irem hx hb dL_seen_58 (by decide) ?_
              refine lv_eqi (pk_rem (by omega) (by omega) (by omega)) ?_
              refine h_op (st := [.long (31 * (sB v.1 n14 i)), .long 31, .long 31]) C hS hP hD hl.1 (k_holds (w := (i / 12)) (p := (i % 12)) (by omega) (by omega)) gL_seen_X4_holds rfl hd_holds ⟨Nat.le_of_ble_eq_true rfl, Nat.le_of_ble_eq_true rfl⟩ rfl rfl (Nat.le_of_ble_eq_true rfl) dL_seen_59 ⟨Nat.le_of_ble_eq_true rfl, Nat.le_of_ble_eq_true rfl⟩ (fun H locs hP hD hS => ?_)
              refine lv_i2l (v := (hldA v.1 (i / 12) (i % 12)).toInt64) hx hb dL_seen_62 rfl ?_
              refine lv_ladd hx hb dL_seen_63 ?_
              refine lv_lmul hx hb dL_seen_64 ?_
              refine lv_aload_n hx hb dL_seen_65 rfl (lv_at hl 0 rfl) ?_
              refine lv_iload_n hx hb dL_seen_66 rfl (lv_at hl 2 rfl) ?_
              refine lv_bipush (v := nI 6) hx hb dL_seen_67 (by decide) ?_
              refine lv_idiv hx hb dL_seen_69 (by decide) ?_
              refine lv_eqi (pk_div (by omega) (by omega) (by omega)) ?_
              refine lv_iload_n hx hb dL_seen_70 rfl (lv_at hl 2 rfl) ?_
              refine lv_bipush (v := nI 6) hx hb dL_seen_71 (by decide) ?_
              refine lv_irem hx hb dL_seen_73 (by decide) ?_
              refine lv_eqi (pk_rem (by omega) (by omega) (by omega)) ?_
              refine h_op (st := [.long (31 * ((31 * (sB v.1 n14 i)) + ((hldA v.1 (i / 12) (i % 12)).toInt64))), .long 31]) C hS hP hD hl.1 (k_puddle (p := (i / 6)) (by omega) (q := (i % 6)) (by omega)) gL_seen_X4_puddle rfl hd_puddle ⟨Nat.le_of_ble_eq_true rfl, Nat.le_of_ble_eq_true rfl⟩ rfl rfl (Nat.le_of_ble_eq_true rfl) dL_seen_74 ⟨Nat.le_of_ble_eq_true rfl, Nat.le_of_ble_eq_true rfl⟩ (fun H locs hP hD hS => ?_)
              refine lv_i2l (v := (pudA v.1 (i / 6) (i % 6)).toInt64) hx hb dL_seen_77 rfl ?_
              refine lv_ladd hx hb dL_seen_78 ?_
              refine lv_lmul hx hb dL_seen_79 ?_
              refine lv_aload_n hx hb dL_seen_80 rfl (lv_at hl 0 rfl) ?_
              refine lv_iload_n hx hb dL_seen_81 rfl (lv_at hl 2 rfl) ?_
              refine lv_bipush (v := nI 12) hx hb dL_seen_82 (by decide) ?_
              refine lv_idiv hx hb dL_seen_84 (by decide) ?_
              refine lv_eqi (pk_div (by omega) (by omega) (by omega)) ?_
              refine lv_iload_n hx hb dL_seen_85 rfl (lv_at hl 2 rfl) ?_
              refine lv_bipush (v := nI 6) hx hb dL_seen_86 (by decide) ?_
              refine lv_irem hx hb dL_seen_88 (by decide) ?_
              refine lv_eqi (pk_rem (by omega) (by omega) (by omega)) ?_
              refine h_op (st := [.long (31 * ((31 * ((31 * (sB v.1 n14 i)) + ((hldA v.1 (i / 12) (i % 12)).toInt64))) + ((pudA v.1 (i / 6) (i % 6)).toInt64)))]) C hS hP hD hl.1 (k_walker (w := (i / 12)) (by omega) (q := (i % 6)) (by omega)) gL_seen_X4_walker rfl hd_walker ⟨Nat.le_of_ble_eq_true rfl, Nat.le_of_ble_eq_true rfl⟩ rfl rfl (Nat.le_of_ble_eq_true rfl) dL_seen_89 ⟨Nat.le_of_ble_eq_true rfl, Nat.le_of_ble_eq_true rfl⟩ (fun H locs hP hD hS => ?_)
              refine lv_i2l (v := (walA v.1 (i / 12) (i % 6)).toInt64) hx hb dL_seen_92 rfl ?_
              refine lv_ladd hx hb dL_seen_93 ?_
              refine lv_lstore_n (lv' := [(1, .long ((31 * ((31 * ((31 * (sB v.1 n14 i)) + ((hldA v.1 (i / 12) (i % 12)).toInt64))) + ((pudA v.1 (i / 6) (i % 6)).toInt64))) + ((walA v.1 (i / 12) (i % 6)).toInt64))), (0, .ref B.1.1), (3, .int (nI i))]) hx hb dL_seen_94 rfl hl (by decide) rfl (fun ls hl => ?_)
              refine lv_iinc (v := nI (i + 1)) (lv' := [(3, .int (nI (i + 1))), (1, .long ((31 * ((31 * ((31 * (sB v.1 n14 i)) + ((hldA v.1 (i / 12) (i % 12)).toInt64))) + ((pudA v.1 (i / 6) (i % 6)).toInt64))) + ((walA v.1 (i / 12) (i % 6)).toInt64))), (0, .ref B.1.1)]) hx hb dL_seen_95 hl (k := 2) rfl (nI_1 _) (by decide) rfl (fun ls hl => ?_)
              refine lv_goto (tgt := 33) hx hb dL_seen_98 (by decide) ?_
              exact ih (i + 1) (by omega) _ _ _ hP (D_of hD rfl) hS (by rw [show (sB v.1 n14 (i + 1)) = ((31 * ((31 * ((31 * (sB v.1 n14 i)) + ((hldA v.1 (i / 12) (i % 12)).toInt64))) + ((pudA v.1 (i / 6) (i % 6)).toInt64))) + ((walA v.1 (i / 12) (i % 6)).toInt64)) from by rfl]; exact lv_sub hl [2, 1, 0] rfl)
        exact loop_33 n72 0 (by omega) _ _ _ hP (D_of hD rfl) hS (by rw [show (sB v.1 n14 0) = (sA v.1 n14) from by rfl]; exact lv_sub hl [1, 2, 0] rfl)
      · skip
        exact absurd (nI_le (by omega) (by omega)) c_1
    | succ n ih =>
      intro i hi H locs ls hP hD hS hl
      have hlt : i < n14 := by omega
      refine lv_iload_n hx hb dL_seen_6 rfl (lv_at hl 2 rfl) ?_
      refine lv_bipush (v := nI 14) hx hb dL_seen_7 (by decide) ?_
      refine lv_icmp_ge (tgt := 31) hx hb dL_seen_9 (by decide) (fun c_4 => ?_) (fun c_4 => ?_)
      · skip
        exact absurd c_4 (nI_ge (by omega) (by omega))
      · skip
        refine lv_ldc2 hx hb hown (hts (.constantLong RL 12 (31)) (List.mem_of_getElem? (i := 2) rfl)) dL_seen_12 ?_
        refine lv_lload_n hx hb dL_seen_15 rfl (lv_at hl 1 rfl) ?_
        refine lv_lmul hx hb dL_seen_16 ?_
        refine lv_aload_n hx hb dL_seen_17 rfl (lv_at hl 0 rfl) ?_
        refine lv_iload_n hx hb dL_seen_18 rfl (lv_at hl 2 rfl) ?_
        refine h_op (st := [.long (31 * (sA v.1 i))]) C hS hP hD hl.1 (k_count h0 (q := i) (by omega)) gL_seen_X4_count rfl hd_count ⟨Nat.le_of_ble_eq_true rfl, Nat.le_of_ble_eq_true rfl⟩ rfl rfl (Nat.le_of_ble_eq_true rfl) dL_seen_19 ⟨Nat.le_of_ble_eq_true rfl, Nat.le_of_ble_eq_true rfl⟩ (fun H locs hP hD hS => ?_)
        refine lv_i2l (v := (cntA v.1 i).toInt64) hx hb dL_seen_22 rfl ?_
        refine lv_ladd hx hb dL_seen_23 ?_
        refine lv_lstore_n (lv' := [(1, .long ((31 * (sA v.1 i)) + ((cntA v.1 i).toInt64))), (0, .ref B.1.1), (3, .int (nI i))]) hx hb dL_seen_24 rfl hl (by decide) rfl (fun ls hl => ?_)
        refine lv_iinc (v := nI (i + 1)) (lv' := [(3, .int (nI (i + 1))), (1, .long ((31 * (sA v.1 i)) + ((cntA v.1 i).toInt64))), (0, .ref B.1.1)]) hx hb dL_seen_25 hl (k := 2) rfl (nI_1 _) (by decide) rfl (fun ls hl => ?_)
        refine lv_goto (tgt := 6) hx hb dL_seen_28 (by decide) ?_
        exact ih (i + 1) (by omega) _ _ _ hP (D_of hD rfl) hS (by rw [show (sA v.1 (i + 1)) = ((31 * (sA v.1 i)) + ((cntA v.1 i).toInt64)) from by rfl]; exact lv_sub hl [2, 1, 0] rfl)
  exact loop_6 n14 0 (by omega) _ _ _ hP (D_of hD rfl) hS (by rw [show (sA v.1 0) = 211 from by rfl]; exact lv_sub hl [2, 1, 0] rfl)
theorem seen_ex (l : Launch) (G : va_G) (ca : Nat → ClassId) (tL tM : Nat) (B : AD) : ∃ F : SS → Int64, ∀ v : VV, v.2.2.1 = 0 → CtL l yL_seen wsL_seen rmA [.ref B.1.1] G ca tL tM (XV ca B v) (F v.1) := by
  obtain ⟨n14, h14⟩ : ∃ n, n = 14 := ⟨_, rfl⟩
  obtain ⟨n72, h72⟩ : ∃ n, n = 72 := ⟨_, rfl⟩
  exact ⟨fun S => sB S n14 n72, fun v h0 => c_L_seen l G ca tL tM B v n14 n72 h14 h72 h0⟩
