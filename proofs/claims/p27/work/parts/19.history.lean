/-! class History: a row of references to streets that stand somewhere in the world -/

abbrev hiT (ca : Nat → ClassId) (h a : Nat) (size : Int32) (rf : Nat → Option Nat) : va_W := [(h, .inr (0, [.ref a, .int size])), (a, .inl (ca 3, 6, .inr (.inr (.inr (.inr rf)))))]
theorem hiF {ca : Nat → ClassId} {h a : Nat} {n n1 : Int32} {rf rf1 : Nat → Option Nat} : (hiT ca h a n rf).map Prod.fst = (hiT ca h a n1 rf1).map Prod.fst := rfl
section MYQ
variable {p : Program} {l : Launch} {e : Env} {R : Room} {s : State} {m : MethodId} {args : Array Value} {below : List Frame} {meth : Method} {c : Code} {H : Heap} {locs : List Loc} {cells slots : Nat} {Q : State → Prop}
variable {cc : ByteArray} {pc : Nat} {ls : Array Slot} {rest st0 : List Value} {A : Nat → Prop} {H0 : Heap} {G : va_G}
theorem b_aald {cl : List vw_C} {tys : List (ClassId × FieldType)} {ws : va_W} {o : Nat} (hexec : p.tables.exec = Jvm.exec) (hb : c.code = cc) (hK : va_K G cl tys s) (hP : va_P G cl ws H) (q0 : Nat) {cA : ClassId} {C : String} {n : Nat} {f : Nat → Option Nat} (ha : ws[q0]? = some (o, .inl (cA, n, .inr (.inr (.inr (.inr f)))))) (ht : tys[3]? = some (cA, .object C)) {j : Nat} (hj : j < n) (hn : n < 2 ^ 31) {v : Nat} (hv : f j = some v) (hdg : decode cc pc = .ok (.aaload, 1))
    (kk : W p l e R s m args below meth c H locs cells slots Q (F0 m (pc + 1) ls (.ref v :: rest))) : W p l e R s m args below meth c H locs cells slots Q (F0 m pc ls (.int (nI j) :: .ref o :: rest)) := by
  refine va_aldq hexec hb hK hP q0 3 ha ht (vp_in_nI hj hn) hdg ?_
  rw [nI_clamp (Nat.lt_trans hj hn), hv]
  exact kk
theorem b_aast {cl : List vw_C} {tys : List (ClassId × FieldType)} {ws : va_W} {o : Nat} {r : vw_C} (hexec : p.tables.exec = Jvm.exec) (hb : c.code = cc) (hK : va_K G cl tys s) (hP : va_P G cl ws H) (hD : va_D A ws) (hS : va_S A H0 H locs) (q0 : Nat) {qk : Nat} {v : Nat} {vs : List Value} {ci : Nat} (hv : ws[qk]? = some (v, .inr (ci, vs)) ∧ cl[ci]? = some r) {cA : ClassId} {n : Nat} {f : Nat → Option Nat} (ha : ws[q0]? = some (o, .inl (cA, n, .inr (.inr (.inr (.inr f)))))) (ht : tys[3]? = some (cA, .object r.1)) {j : Nat} (hj : j < n) (hn : n < 2 ^ 31) (hdg : decode cc pc = .ok (.aastore, 1))
    (kk : ∀ (H1 : Heap) (locs1 : List Loc), va_P G cl (ws.set q0 (o, .inl (cA, n, .inr (.inr (.inr (.inr (va_up f j (some v)))))))) H1 → va_D A (ws.set q0 (o, .inl (cA, n, .inr (.inr (.inr (.inr (va_up f j (some v)))))))) → va_S A H0 H1 locs1 → W p l e R s m args below meth c H1 locs1 cells slots Q (F0 m (pc + 1) ls rest)) : W p l e R s m args below meth c H locs cells slots Q (F0 m pc ls (.ref v :: .int (nI j) :: .ref o :: rest)) := by
  refine va_astq hexec hb hK hP hD hS q0 3 qk ci ha ht hv.1 hv.2 (vp_in_nI hj hn) hdg ?_
  rw [nI_clamp (Nat.lt_trans hj hn)]
  exact kk
end MYQ
def dpL (rf : Nat → Option Nat) (i : Nat) : Nat → Option Nat := fun j => if j + 1 < i then rf (j + 1) else rf j
theorem dpL_1 (rf : Nat → Option Nat) : dpL rf 1 = rf := by funext j; unfold dpL; rw [if_neg (by omega)]
theorem dpL_hi (rf : Nat → Option Nat) (i : Nat) : dpL rf i i = rf i := by unfold dpL; rw [if_neg (by omega)]
theorem dpL_s (rf : Nat → Option Nat) (i v : Nat) (hi : 0 < i) (hv : rf i = some v) : va_up (dpL rf i) (i - 1) (some v) = dpL rf (i + 1) := by
  funext j
  unfold va_up dpL
  by_cases h : j = i - 1
  · subst h; rw [if_pos rfl, if_pos (by omega), ← hv]; congr 1; omega
  · rw [if_neg h]
    by_cases h2 : j + 1 < i
    · rw [if_pos h2, if_pos (by omega)]
    · rw [if_neg h2, if_neg (by omega)]
def rotR (rf : Nat → Option Nat) : Nat → Option Nat := fun j => if j + 1 < 6 then rf (j + 1) else if j = 5 then rf 0 else rf j
theorem rotR_of (rf : Nat → Option Nat) (v : Nat) (hv : rf 0 = some v) : va_up (dpL rf 6) 5 (some v) = rotR rf := by
  funext j
  unfold va_up dpL rotR
  by_cases h : j = 5
  · subst h; rw [if_pos rfl, if_neg (by omega), if_pos rfl, hv]
  · rw [if_neg h]
    by_cases h2 : j + 1 < 6
    · rw [if_pos h2, if_pos h2]
    · rw [if_neg h2, if_neg h2, if_neg h]
set_option maxHeartbeats 4000000 in
set_option maxRecDepth 100000 in
theorem c_X0_dropOldest (l : Launch) (G : va_G) (ca : Nat → ClassId) (Wd : va_W) (q1 q2 hh ka : Nat) (rf : Nat → Option Nat) (h1 : Wd[q1]? = some (hh, .inr (0, [.ref ka, .int (nI 6)]))) (h2 : Wd[q2]? = some (ka, .inl (ca 3, 6, .inr (.inr (.inr (.inr rf)))))) (hne : q1 ≠ q2) (hob : ∀ i, i < 6 → ∃ (v x : Nat) (y : List Value), rf i = some v ∧ Wd[x]? = some (v, .inr (3, y))) : CtV l yX0_dropOldest wsX0_dropOldest ({ frames := 0, cells := 0, slots := 0, locals := 0 }) [.ref hh] G ca Wd ((Wd.set q2 (ka, .inl (ca 3, 6, .inr (.inr (.inr (.inr (rotR rf))))))).set q1 (hh, .inr (0, [.ref ka, .int (nI 5)]))) := by
  refine CtV.ofW (cc := cX0_dropOldest) (maxL := 3) (by decide) rfl (Nat.le_of_ble_eq_true rfl) ?_
  intro pr en s m be me c A ls Q H hx hb hml hts hown hev hP hD hA hS hl hret
  have hown : s.vm.findClass RX0 = some m.cls := hown
  have hl : lv_has ls 3 [(0, .ref hh)] := hl
  have in_wsX00 : ∀ w ∈ wsX00, w ∈ wsX0_dropOldest := fun _ h => List.mem_cons_of_mem _ (List.mem_append_right _ h)
  have hP : va_P G vwCl (Wd.set q2 (ka, .inl (ca 3, 6, .inr (.inr (.inr (.inr (dpL rf 1))))))) H := by rw [dpL_1, set_same h2]; exact hP
  have hD : va_D A (Wd.set q2 (ka, .inl (ca 3, 6, .inr (.inr (.inr (.inr (dpL rf 1))))))) := by rw [dpL_1, set_same h2]; exact hD
  obtain ⟨v0, x0, y0, hv0, hw0⟩ := hob 0 (by omega)
  have hl2 := (List.getElem?_eq_some_iff.mp h2).1
  have k1 : (Wd.set q2 (ka, .inl (ca 3, 6, .inr (.inr (.inr (.inr (dpL rf 1)))))))[q1]? = some (hh, .inr (0, [.ref ka, .int (nI 6)])) := by rw [List.getElem?_set_ne (Ne.symm hne)]; exact h1
  have k2 : (Wd.set q2 (ka, .inl (ca 3, 6, .inr (.inr (.inr (.inr (dpL rf 1)))))))[q2]? = some (ka, .inl (ca 3, 6, .inr (.inr (.inr (.inr (dpL rf 1)))))) := List.getElem?_set_self hl2
  have ko : ∀ (x y : Nat) (z : List Value), Wd[x]? = some (y, .inr (3, z)) → (Wd.set q2 (ka, .inl (ca 3, 6, .inr (.inr (.inr (.inr (dpL rf 1)))))))[x]? = some (y, .inr (3, z)) := fun x y z q => by rw [List.getElem?_set_ne (fun e2 => by rw [← e2, h2] at q; cases q)]; exact q
  refine lv_aload_n hx hb dX0_dropOldest_0 rfl (lv_at hl 0 rfl) ?_
  refine va_get (D := G) (ci := 0) (v := .ref ka) (C := RX0) (T := TX0) (N := 2) hx hb hts in_wsX00 hown hev.1 hP (q1) k1 rfl 0 (by decide) (hts (.fieldLink RX0 11 "PuddleMinistries$History" "kept" "[LPuddleMinistries$Street;") (List.mem_of_getElem? (i := 1) rfl)) (fun _ h9 => h9) rfl dX0_dropOldest_1 ?_
  refine lv_iconst (v := nI 0) hx hb dX0_dropOldest_4 (by decide) ?_
  refine b_aald hx hb hev.1 hP q2 k2 rfl (j := 0) (by omega) (by decide) (v := v0) (by rw [dpL_1]; exact hv0) dX0_dropOldest_5 ?_
  refine lv_astore_n (lv' := [(1, .ref v0), (0, .ref hh)]) hx hb dX0_dropOldest_6 rfl hl (by decide) rfl (fun ls hl => ?_)
  refine lv_iconst (v := nI 1) hx hb dX0_dropOldest_7 (by decide) ?_
  refine lv_istore_n (lv' := [(2, .int (nI 1)), (1, .ref v0), (0, .ref hh)]) hx hb dX0_dropOldest_8 rfl hl (by decide) rfl (fun ls hl => ?_)
  have loop_9 : ∀ (k i : Nat), i + k = 6 → 1 ≤ i → ∀ (H : Heap) (locs : List Loc) (ls : Array Slot), va_P G vwCl (Wd.set q2 (ka, .inl (ca 3, 6, .inr (.inr (.inr (.inr (dpL rf i))))))) H → va_D A (Wd.set q2 (ka, .inl (ca 3, 6, .inr (.inr (.inr (.inr (dpL rf i))))))) → va_S A s.heap H locs → lv_has ls 3 [(0, .ref hh), (1, .ref v0), (2, .int (nI i))] → W pr l en ({ frames := 0, cells := 0, slots := 0, locals := 0 } : Room) s m ([.ref hh] : List Value).toArray be me c H locs 0 0 Q (F0 m 9 ls []) := by
    intro k
    induction k with
    | zero =>
      intro i hi hi1 H locs ls hP hD hS hl
      obtain rfl : i = 6 := by omega
      have hl2 := (List.getElem?_eq_some_iff.mp h2).1
      have k1 : (Wd.set q2 (ka, .inl (ca 3, 6, .inr (.inr (.inr (.inr (dpL rf 6)))))))[q1]? = some (hh, .inr (0, [.ref ka, .int (nI 6)])) := by rw [List.getElem?_set_ne (Ne.symm hne)]; exact h1
      have k2 : (Wd.set q2 (ka, .inl (ca 3, 6, .inr (.inr (.inr (.inr (dpL rf 6)))))))[q2]? = some (ka, .inl (ca 3, 6, .inr (.inr (.inr (.inr (dpL rf 6)))))) := List.getElem?_set_self hl2
      have ko : ∀ (x y : Nat) (z : List Value), Wd[x]? = some (y, .inr (3, z)) → (Wd.set q2 (ka, .inl (ca 3, 6, .inr (.inr (.inr (.inr (dpL rf 6)))))))[x]? = some (y, .inr (3, z)) := fun x y z q => by rw [List.getElem?_set_ne (fun e2 => by rw [← e2, h2] at q; cases q)]; exact q
      refine lv_iload_n hx hb dX0_dropOldest_9 rfl (lv_at hl 2 rfl) ?_
      refine lv_bipush (v := nI 6) hx hb dX0_dropOldest_10 (by decide) ?_
      refine lv_icmp_ge (tgt := 35) hx hb dX0_dropOldest_12 (by decide) (fun c_1 => ?_) (fun c_1 => ?_)
      · skip
        refine lv_aload_n hx hb dX0_dropOldest_35 rfl (lv_at hl 0 rfl) ?_
        refine va_get (D := G) (ci := 0) (v := .ref ka) (C := RX0) (T := TX0) (N := 2) hx hb hts in_wsX00 hown hev.1 hP (q1) k1 rfl 0 (by decide) (hts (.fieldLink RX0 11 "PuddleMinistries$History" "kept" "[LPuddleMinistries$Street;") (List.mem_of_getElem? (i := 1) rfl)) (fun _ h9 => h9) rfl dX0_dropOldest_36 ?_
        refine lv_iconst (v := nI 5) hx hb dX0_dropOldest_39 (by decide) ?_
        refine lv_aload_n hx hb dX0_dropOldest_40 rfl (lv_at hl 1 rfl) ?_
        refine b_aast hx hb hev.1 hP hD hS q2 ⟨ko x0 v0 y0 hw0, rfl⟩ k2 rfl (j := 5) (by omega) (by decide) dX0_dropOldest_41 (fun H locs hP hD hS => ?_)
        rw [List.set_set, rotR_of rf v0 hv0] at hP hD
        have k1 : (Wd.set q2 (ka, .inl (ca 3, 6, .inr (.inr (.inr (.inr (rotR rf)))))))[q1]? = some (hh, .inr (0, [.ref ka, .int (nI 6)])) := by rw [List.getElem?_set_ne (Ne.symm hne)]; exact h1
        refine lv_aload_n hx hb dX0_dropOldest_42 rfl (lv_at hl 0 rfl) ?_
        refine lv_iconst (v := nI 5) hx hb dX0_dropOldest_43 (by decide) ?_
        refine va_put (D := G) (ci := 0) (v := .int (nI 5)) (ty := .int) (C := RX0) (T := TX0) (N := 2) hx hb hts in_wsX00 tyX0 tyX0_ok nmX0 hown hev.1 hP hD hS (q1) k1 rfl 1 (by decide) (hts (.fieldLink RX0 18 "PuddleMinistries$History" "size" "I") (List.mem_of_getElem? (i := 2) rfl)) (fun _ h9 => h9) rfl (by decide +kernel) rfl rfl (Nat.le_of_ble_eq_true rfl) dX0_dropOldest_44 (fun H locs hP hD hS => ?_)
        exact hret _ _ _ _ hP hS dX0_dropOldest_47
      · skip
        exact absurd (nI_le (by omega) (by omega)) c_1
    | succ k ih =>
      intro i hi hi1 H locs ls hP hD hS hl
      have hlt : i < 6 := by omega
      have hl2 := (List.getElem?_eq_some_iff.mp h2).1
      have k1 : (Wd.set q2 (ka, .inl (ca 3, 6, .inr (.inr (.inr (.inr (dpL rf i)))))))[q1]? = some (hh, .inr (0, [.ref ka, .int (nI 6)])) := by rw [List.getElem?_set_ne (Ne.symm hne)]; exact h1
      have k2 : (Wd.set q2 (ka, .inl (ca 3, 6, .inr (.inr (.inr (.inr (dpL rf i)))))))[q2]? = some (ka, .inl (ca 3, 6, .inr (.inr (.inr (.inr (dpL rf i)))))) := List.getElem?_set_self hl2
      have ko : ∀ (x y : Nat) (z : List Value), Wd[x]? = some (y, .inr (3, z)) → (Wd.set q2 (ka, .inl (ca 3, 6, .inr (.inr (.inr (.inr (dpL rf i)))))))[x]? = some (y, .inr (3, z)) := fun x y z q => by rw [List.getElem?_set_ne (fun e2 => by rw [← e2, h2] at q; cases q)]; exact q
      obtain ⟨v, x, y, hv, hw⟩ := hob i (by omega)
      refine lv_iload_n hx hb dX0_dropOldest_9 rfl (lv_at hl 2 rfl) ?_
      refine lv_bipush (v := nI 6) hx hb dX0_dropOldest_10 (by decide) ?_
      refine lv_icmp_ge (tgt := 35) hx hb dX0_dropOldest_12 (by decide) (fun c_2 => ?_) (fun c_2 => ?_)
      · skip
        exact absurd c_2 (nI_ge (by omega) (by omega))
      · skip
        refine lv_aload_n hx hb dX0_dropOldest_15 rfl (lv_at hl 0 rfl) ?_
        refine va_get (D := G) (ci := 0) (v := .ref ka) (C := RX0) (T := TX0) (N := 2) hx hb hts in_wsX00 hown hev.1 hP (q1) k1 rfl 0 (by decide) (hts (.fieldLink RX0 11 "PuddleMinistries$History" "kept" "[LPuddleMinistries$Street;") (List.mem_of_getElem? (i := 1) rfl)) (fun _ h9 => h9) rfl dX0_dropOldest_16 ?_
        refine lv_iload_n hx hb dX0_dropOldest_19 rfl (lv_at hl 2 rfl) ?_
        refine lv_iconst (v := nI 1) hx hb dX0_dropOldest_20 (by decide) ?_
        refine lv_isub hx hb dX0_dropOldest_21 ?_
        refine lv_eqi (pk_sub (by omega)) ?_
        refine lv_aload_n hx hb dX0_dropOldest_22 rfl (lv_at hl 0 rfl) ?_
        refine va_get (D := G) (ci := 0) (v := .ref ka) (C := RX0) (T := TX0) (N := 2) hx hb hts in_wsX00 hown hev.1 hP (q1) k1 rfl 0 (by decide) (hts (.fieldLink RX0 11 "PuddleMinistries$History" "kept" "[LPuddleMinistries$Street;") (List.mem_of_getElem? (i := 1) rfl)) (fun _ h9 => h9) rfl dX0_dropOldest_23 ?_
        refine lv_iload_n hx hb dX0_dropOldest_26 rfl (lv_at hl 2 rfl) ?_
        refine b_aald hx hb hev.1 hP q2 k2 rfl (j := i) (by omega) (by decide) (v := v) (by rw [dpL_hi]; exact hv) dX0_dropOldest_27 ?_
        refine b_aast hx hb hev.1 hP hD hS q2 ⟨ko x v y hw, rfl⟩ k2 rfl (j := (i - 1)) (by omega) (by decide) dX0_dropOldest_28 (fun H locs hP hD hS => ?_)
        rw [List.set_set, dpL_s rf i v (by omega) hv] at hP hD
        refine lv_iinc (v := nI (i + 1)) (lv' := [(2, .int (nI (i + 1))), (0, .ref hh), (1, .ref v0)]) hx hb dX0_dropOldest_29 hl (k := 2) rfl (nI_1 _) (by decide) rfl (fun ls hl => ?_)
        refine lv_goto (tgt := 9) hx hb dX0_dropOldest_32 (by decide) ?_
        exact ih (i + 1) (by omega) (by omega) _ _ _ hP (D_of hD rfl) hS (lv_sub hl [1, 2, 0] rfl)
  exact loop_9 (6 - 1) 1 (by omega) (by omega) _ _ _ hP (D_of hD rfl) hS (lv_sub hl [2, 1, 0] rfl)
