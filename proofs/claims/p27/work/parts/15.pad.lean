theorem wb_tb (n : Nat) : (lN n).toBitVec = BitVec.ofNat 64 n := rfl
theorem wb_inj {a b : Int64} (h : a.toBitVec = b.toBitVec) : a = b := Int64.toBitVec_inj.mp h
theorem wb_tn {n : Nat} (h : n < 2 ^ 64) : (lN n).toBitVec.toNat = n := by rw [wb_tb, BitVec.toNat_ofNat, Nat.mod_eq_of_lt h]
theorem wb_of (x : Int64) : ∃ n, n < 2 ^ 64 ∧ x = lN n := ⟨x.toBitVec.toNat, x.toBitVec.isLt, wb_inj (by rw [wb_tb]; simp)⟩
theorem wb_of32 (x : Int32) : ∃ n, n < 2 ^ 32 ∧ x = nI n := ⟨x.toBitVec.toNat, x.toBitVec.isLt, Int32.toBitVec_inj.mp (by show _ = BitVec.ofNat 32 _; simp)⟩
theorem wb_c : ∀ k, k < 64 → ((nI k).toInt64 &&& 63) = lN k := by decide +kernel
theorem wb_cu : ∀ k, k < 64 → ((nI k).toInt64.toUInt64 &&& Int64.toUInt64 63) = UInt64.ofNat k := by decide +kernel
theorem wb_sm : ∀ k, k < 64 → (BitVec.ofNat 64 k).smod 64 = BitVec.ofNat 64 k := by decide +kernel
theorem wb_pw {a b : Nat} (h : a ≤ b) : 2 ^ b = 2 ^ a * 2 ^ (b - a) := by rw [← Nat.pow_add]; congr 1; omega
theorem wb_lt2 {a b : Nat} (h : a < b) : 2 ^ a < 2 ^ b := Nat.pow_lt_pow_right (by decide) h
theorem wb_mod (n : Nat) : lN n = lN (n % 2 ^ 64) := wb_inj (by rw [wb_tb, wb_tb]; apply BitVec.eq_of_toNat_eq; rw [BitVec.toNat_ofNat, BitVec.toNat_ofNat, Nat.mod_mod])
theorem wb_shr {n k : Nat} (hn : n < 2 ^ 64) (hk : k < 64) : ((lN n).toUInt64 >>> ((nI k).toInt64.toUInt64 &&& Int64.toUInt64 63)).toInt64 = lN (n / 2 ^ k) := by
  rw [wb_cu k hk]
  apply wb_inj
  apply BitVec.eq_of_toNat_eq
  show ((lN n).toUInt64 >>> UInt64.ofNat k).toNat = (BitVec.ofNat 64 _).toNat
  have h1 : (UInt64.ofNat k).toNat = k := by
    show (BitVec.ofNat 64 k).toNat = k
    rw [BitVec.toNat_ofNat, Nat.mod_eq_of_lt (by omega)]
  have h2 : (lN n).toUInt64.toNat = n := wb_tn hn
  rw [UInt64.toNat_shiftRight, h1, h2, Nat.mod_eq_of_lt hk, Nat.shiftRight_eq_div_pow, BitVec.toNat_ofNat, Nat.mod_eq_of_lt (Nat.lt_of_le_of_lt (Nat.div_le_self _ _) hn)]
theorem wb_shl (n : Nat) {k : Nat} (hk : k < 64) : lN n <<< ((nI k).toInt64 &&& 63) = lN (n * 2 ^ k) := by
  rw [wb_c k hk]
  apply wb_inj
  rw [Int64.toBitVec_shiftLeft, wb_tb, wb_tb, wb_tb, wb_sm k hk]
  apply BitVec.eq_of_toNat_eq
  rw [BitVec.shiftLeft_eq', BitVec.toNat_shiftLeft, BitVec.toNat_ofNat, BitVec.toNat_ofNat, BitVec.toNat_ofNat, Nat.mod_eq_of_lt (show k < 2 ^ 64 by omega), Nat.shiftLeft_eq, Nat.mul_mod, Nat.mod_mod, ← Nat.mul_mod]
theorem wb_and {a b : Nat} (ha : a < 2 ^ 64) (hb : b < 2 ^ 64) : lN a &&& lN b = lN (a &&& b) := by
  apply wb_inj
  rw [Int64.toBitVec_and, wb_tb, wb_tb, wb_tb]
  apply BitVec.eq_of_toNat_eq
  rw [BitVec.toNat_and, BitVec.toNat_ofNat, BitVec.toNat_ofNat, BitVec.toNat_ofNat, Nat.mod_eq_of_lt ha, Nat.mod_eq_of_lt hb, Nat.mod_eq_of_lt (Nat.and_lt_two_pow _ hb)]
theorem wb_or {a b : Nat} (ha : a < 2 ^ 64) (hb : b < 2 ^ 64) : lN a ||| lN b = lN (a ||| b) := by
  apply wb_inj
  rw [Int64.toBitVec_or, wb_tb, wb_tb, wb_tb]
  apply BitVec.eq_of_toNat_eq
  rw [BitVec.toNat_or, BitVec.toNat_ofNat, BitVec.toNat_ofNat, BitVec.toNat_ofNat, Nat.mod_eq_of_lt ha, Nat.mod_eq_of_lt hb, Nat.mod_eq_of_lt (Nat.or_lt_two_pow ha hb)]
theorem wb_mask {n k : Nat} (hn : n < 2 ^ 64) (hk : k < 64) : lN n &&& lN (2 ^ k - 1) = lN (n % 2 ^ k) := by
  rw [wb_and hn (by have := wb_lt2 hk; omega), Nat.and_two_pow_sub_one_eq_mod]
theorem wb_a1 {n : Nat} (hn : n < 2 ^ 64) : lN n &&& 1 = lN (n % 2) := wb_mask (k := 1) hn (by decide)
theorem wb_bit {n k : Nat} (hn : n < 2 ^ 64) (hk : k < 64) : ((lN n).toUInt64 >>> ((nI k).toInt64.toUInt64 &&& Int64.toUInt64 63)).toInt64 &&& 1 = lN (n / 2 ^ k % 2) := by
  rw [wb_shr hn hk, wb_a1 (Nat.lt_of_le_of_lt (Nat.div_le_self _ _) hn)]
/-! class Pad -/
theorem and255L (x : Nat) (h : x < 2 ^ 64) : lN x &&& 255 = lN (x % 256) := wb_mask (k := 8) h (by decide)
theorem lc_eq {a b : Nat} (ha : a < 2 ^ 64) (hb : b < 2 ^ 64) : lg_cmp (lN a) (lN b) = 0 ↔ a = b := (lg_cmp_eq _ _).trans ⟨fun h => by
  have h1 : (lN a).toBitVec.toNat = (lN b).toBitVec.toNat := by rw [h]
  rwa [wb_tn ha, wb_tn hb] at h1, fun h => by rw [h]⟩
theorem lc_lt {a b : Nat} (ha : a < 2 ^ 63) (hb : b < 2 ^ 63) : lg_cmp (lN a) (lN b) < 0 ↔ a < b := (lg_cmp_lt _ _).trans (pk_lLT ha hb)
theorem lc_le {a b : Nat} (ha : a < 2 ^ 63) (hb : b < 2 ^ 63) : lg_cmp (lN a) (lN b) ≤ 0 ↔ a ≤ b := (lg_cmp_le _ _).trans (pk_lLE ha hb)
theorem pred_nI {m : Nat} (h : 0 < m) : nI m - 1 = nI (m - 1) := by
  obtain ⟨k, rfl⟩ : ∃ k, m = k + 1 := ⟨m - 1, by omega⟩
  exact nI_pred k
theorem i2c_nI {q : Nat} (h : q < 65536) : ((nI q).toUInt32 % 65536).toInt32 = nI q := by rw [pk_char, pk_tn (by omega), Nat.mod_eq_of_lt h]
theorem nar_ch {q : Nat} (h : q < 65536) : vp_nar .char (nI q) = nI q := by unfold vp_nar; rw [(pk_charN h).1]
def sh8 (x i : Nat) : Nat := x / 2 ^ (8 * i)
theorem sh8_s (x i : Nat) : sh8 x (i + 1) = sh8 x i / 2 ^ 8 := by unfold sh8; rw [Nat.div_div_eq_div_mul, ← Nat.pow_add]; congr 2
theorem sh8_0 (x : Nat) : sh8 x 0 = x := by unfold sh8; simp
theorem sh8_le (x i : Nat) : sh8 x i ≤ x := Nat.div_le_self _ _
theorem back_nI {k i : Nat} (h : i < k) : nI (k - (i + 1)) - 1 = nI (k - i) - 1 + (-1) := by
  rw [pred_nI (m := k - i) (by omega), Int32.sub_eq_add_neg]
  rfl
def chF (x i : Nat) : Nat := if sh8 x i = 0 then i else 0
def chG (x : Nat) : Nat → Nat → Nat
  | 0, i => chF x i
  | n + 1, i => if sh8 x i % 256 = 0 then chF x i else if sh8 x i % 256 < 33 then 0 else if sh8 x i % 256 ≤ 126 then chG x n (i + 1) else 0
theorem chG_s (x n i : Nat) : chG x (n + 1) i = if sh8 x i % 256 = 0 then chF x i else if sh8 x i % 256 < 33 then 0 else if sh8 x i % 256 ≤ 126 then chG x n (i + 1) else 0 := rfl
theorem chG_0 (x i : Nat) : chG x 0 i = chF x i := rfl
def apL (g : Nat → Int32) (n x k : Nat) : Nat → (Nat → Int32) | 0 => g | i + 1 => upd (apL g n x k i) (n + i) (nI (sh8 x (k - i - 1) % 256))
def iaC (x : Int32) : Int32 := if x < 49 then 0 else if 57 < x then 0 else 1
def bhC (x : Int32) : Int32 := if x = 114 then 1 else if x = 115 then 1 else if x = 102 then 1 else if x = 100 then 1 else 0
def wtC (x : Int32) : Int32 := if iaC x = 0 then (if x = 115 then 0 else if x = 102 then 10 else if x = 100 then 11 else (-1)) else x - 48
theorem iaC_nar (x : Int32) : narrow .boolean (.int (iaC x)) = .int (iaC x) := by unfold iaC; split; rfl; split <;> rfl
theorem bhC_nar (x : Int32) : narrow .boolean (.int (bhC x)) = .int (bhC x) := by unfold bhC; split; rfl; split; rfl; split; rfl; split <;> rfl
def dyL (g : Nat → Int32) : Nat → Int32 | 0 => 0 | i + 1 => if wtC (g i) = 11 then dyL g i + 1 else dyL g i
theorem dyL_s (g : Nat → Int32) (i : Nat) : dyL g (i + 1) = if wtC (g i) = 11 then dyL g i + 1 else dyL g i := rfl
def dueL (g : Nat → Int32) : Nat → Int32 | 0 => 0 | i + 1 => if g i = 114 then 1 else 0
def okL (g : Nat → Int32) (i : Nat) : Int32 := if dueL g i = 0 then bhC (g i) else iaC (g i)
def ffE (g : Nat → Int32) (n : Nat) : Int32 := if dueL g n = 0 then (if nI n = 0 then nI n else (-6)) else nI n
def ffG (g : Nat → Int32) (n : Nat) : Nat → Nat → Int32 | 0, _ => ffE g n | k + 1, i => if okL g i = 0 then nI i else ffG g n k (i + 1)
theorem ffG_s (g : Nat → Int32) (n k i : Nat) : ffG g n (k + 1) i = if okL g i = 0 then nI i else ffG g n k (i + 1) := rfl
set_option maxHeartbeats 4000000 in
set_option maxRecDepth 100000 in
theorem c_X1_isAmount (l : Launch) (G : va_G) (ca : Nat → ClassId) (x : Int32) : CtI l yX1_isAmount wsX1_isAmount ({ frames := 0, cells := 0, slots := 0, locals := 0 }) [.int x] G ca ([]) ([]) (iaC x) := by
  refine CtI.ofW (cc := cX1_isAmount) (maxL := 1) (rt := .boolean) (by decide) rfl (Nat.le_of_ble_eq_true rfl) (iaC_nar x) ?_
  intro pr en s m be me c A ls Q H hx hb hml hts hown hev hP hD hA hS hl hret
  have hown : s.vm.findClass RX1 = some m.cls := hown
  have hl : lv_has ls 1 [(0, .int x)] := hl
  refine lv_iload_n hx hb dX1_isAmount_0 rfl (lv_at hl 0 rfl) ?_
  refine lv_bipush (v := 49) hx hb dX1_isAmount_1 (by decide) ?_
  refine lv_icmp_lt (tgt := 16) hx hb dX1_isAmount_3 (by decide) (fun c_1 => ?_) (fun c_1 => ?_)
  · skip
    refine lv_iconst (v := 0) hx hb dX1_isAmount_16 (by decide) ?_
    refine lv_eqi (y := iaC x) (by rw [iaC, if_pos c_1]) ?_
    exact hret _ _ _ _ hP hS dX1_isAmount_17
  · skip
    refine lv_iload_n hx hb dX1_isAmount_6 rfl (lv_at hl 0 rfl) ?_
    refine lv_bipush (v := 57) hx hb dX1_isAmount_7 (by decide) ?_
    refine lv_icmp_gt (tgt := 16) hx hb dX1_isAmount_9 (by decide) (fun c_2 => ?_) (fun c_2 => ?_)
    · skip
      refine lv_iconst (v := 0) hx hb dX1_isAmount_16 (by decide) ?_
      refine lv_eqi (y := iaC x) (by rw [iaC, if_neg c_1, if_pos c_2]) ?_
      exact hret _ _ _ _ hP hS dX1_isAmount_17
    · skip
      refine lv_iconst (v := 1) hx hb dX1_isAmount_12 (by decide) ?_
      refine lv_goto (tgt := 17) hx hb dX1_isAmount_13 (by decide) ?_
      refine lv_eqi (y := iaC x) (by rw [iaC, if_neg c_1, if_neg c_2]) ?_
      exact hret _ _ _ _ hP hS dX1_isAmount_17
set_option maxHeartbeats 4000000 in
set_option maxRecDepth 100000 in
theorem c_X1_beginsHour (l : Launch) (G : va_G) (ca : Nat → ClassId) (x : Int32) : CtI l yX1_beginsHour wsX1_beginsHour ({ frames := 0, cells := 0, slots := 0, locals := 0 }) [.int x] G ca ([]) ([]) (bhC x) := by
  refine CtI.ofW (cc := cX1_beginsHour) (maxL := 1) (rt := .boolean) (by decide) rfl (Nat.le_of_ble_eq_true rfl) (bhC_nar x) ?_
  intro pr en s m be me c A ls Q H hx hb hml hts hown hev hP hD hA hS hl hret
  have hown : s.vm.findClass RX1 = some m.cls := hown
  have hl : lv_has ls 1 [(0, .int x)] := hl
  refine lv_iload_n hx hb dX1_beginsHour_0 rfl (lv_at hl 0 rfl) ?_
  refine lv_bipush (v := 114) hx hb dX1_beginsHour_1 (by decide) ?_
  refine lv_icmp_eq (tgt := 24) hx hb dX1_beginsHour_3 (by decide) (fun c_1 => ?_) (fun c_1 => ?_)
  · skip
    refine lv_iconst (v := 1) hx hb dX1_beginsHour_24 (by decide) ?_
    refine lv_goto (tgt := 29) hx hb dX1_beginsHour_25 (by decide) ?_
    refine lv_eqi (y := bhC x) (by rw [bhC, if_pos c_1]) ?_
    exact hret _ _ _ _ hP hS dX1_beginsHour_29
  · skip
    refine lv_iload_n hx hb dX1_beginsHour_6 rfl (lv_at hl 0 rfl) ?_
    refine lv_bipush (v := 115) hx hb dX1_beginsHour_7 (by decide) ?_
    refine lv_icmp_eq (tgt := 24) hx hb dX1_beginsHour_9 (by decide) (fun c_2 => ?_) (fun c_2 => ?_)
    · skip
      refine lv_iconst (v := 1) hx hb dX1_beginsHour_24 (by decide) ?_
      refine lv_goto (tgt := 29) hx hb dX1_beginsHour_25 (by decide) ?_
      refine lv_eqi (y := bhC x) (by rw [bhC, if_neg c_1, if_pos c_2]) ?_
      exact hret _ _ _ _ hP hS dX1_beginsHour_29
    · skip
      refine lv_iload_n hx hb dX1_beginsHour_12 rfl (lv_at hl 0 rfl) ?_
      refine lv_bipush (v := 102) hx hb dX1_beginsHour_13 (by decide) ?_
      refine lv_icmp_eq (tgt := 24) hx hb dX1_beginsHour_15 (by decide) (fun c_3 => ?_) (fun c_3 => ?_)
      · skip
        refine lv_iconst (v := 1) hx hb dX1_beginsHour_24 (by decide) ?_
        refine lv_goto (tgt := 29) hx hb dX1_beginsHour_25 (by decide) ?_
        refine lv_eqi (y := bhC x) (by rw [bhC, if_neg c_1, if_neg c_2, if_pos c_3]) ?_
        exact hret _ _ _ _ hP hS dX1_beginsHour_29
      · skip
        refine lv_iload_n hx hb dX1_beginsHour_18 rfl (lv_at hl 0 rfl) ?_
        refine lv_bipush (v := 100) hx hb dX1_beginsHour_19 (by decide) ?_
        refine lv_icmp_ne (tgt := 28) hx hb dX1_beginsHour_21 (by decide) (fun c_4 => ?_) (fun c_4 => ?_)
        · skip
          refine lv_iconst (v := 0) hx hb dX1_beginsHour_28 (by decide) ?_
          refine lv_eqi (y := bhC x) (by rw [bhC, if_neg c_1, if_neg c_2, if_neg c_3, if_neg c_4]) ?_
          exact hret _ _ _ _ hP hS dX1_beginsHour_29
        · skip
          refine lv_iconst (v := 1) hx hb dX1_beginsHour_24 (by decide) ?_
          refine lv_goto (tgt := 29) hx hb dX1_beginsHour_25 (by decide) ?_
          refine lv_eqi (y := bhC x) (by rw [bhC, if_neg c_1, if_neg c_2, if_neg c_3, if_pos c_4]) ?_
          exact hret _ _ _ _ hP hS dX1_beginsHour_29
set_option maxHeartbeats 4000000 in
set_option maxRecDepth 100000 in
theorem c_X1_weatherAt (l : Launch) (G : va_G) (ca : Nat → ClassId) (hp ap : Nat) (g : Nat → Int32) (n : Nat) (i : Nat) (hi : i < 60) : CtI l yX1_weatherAt wsX1_weatherAt ({ frames := 1, cells := 0, slots := 0, locals := 20 }) [.ref hp, .int (nI i)] G ca (paT ca hp ap (g, nI n)) (paT ca hp ap (g, nI n)) (wtC (g i)) := by
  refine CtI.ofW (cc := cX1_weatherAt) (maxL := 3) (rt := .int) (by decide) rfl (Nat.le_of_ble_eq_true rfl) rfl ?_
  intro pr en s m be me c A ls Q H hx hb hml hts hown hev hP hD hA hS hl hret
  have hown : s.vm.findClass RX1 = some m.cls := hown
  have hl : lv_has ls 3 [(0, .ref hp), (1, .int (nI i))] := hl
  have in_wsX10 : ∀ w ∈ wsX10, w ∈ wsX1_weatherAt := fun _ h => List.mem_cons_of_mem _ (List.mem_append_right _ h)
  refine lv_aload_n hx hb dX1_weatherAt_0 rfl (lv_at hl 0 rfl) ?_
  refine va_get (D := G) (ci := 1) (v := .ref ap) (C := RX1) (T := TX1) (N := 2) hx hb hts in_wsX10 hown hev.1 hP 0 rfl rfl 0 (by decide) (hts (.fieldLink RX1 11 "PuddleMinistries$Pad" "signs" "[C") (List.mem_of_getElem? (i := 1) rfl)) (fun _ h9 => h9) rfl dX1_weatherAt_1 ?_
  refine lv_iload_n hx hb dX1_weatherAt_4 rfl (lv_at hl 1 rfl) ?_
  refine b_cald hx hb hev.1 hP 1 rfl rfl (j := i) (by omega) (by decide) dX1_weatherAt_5 ?_
  refine lv_istore_n (lv' := [(2, .int (g i)), (0, .ref hp), (1, .int (nI i))]) hx hb dX1_weatherAt_6 rfl hl (by decide) rfl (fun ls hl => ?_)
  refine lv_iload_n hx hb dX1_weatherAt_7 rfl (lv_at hl 0 rfl) ?_
  refine goI0 (va_runS (As := [.int (g i)]) (rest := []) ⟨hx, hb, hml, hown, hts⟩ (CtI.use (c_X1_isAmount l G ca (g i)) H.size) (va_cwS 1 hts gX1_weatherAt_X1_isAmount rfl rfl rfl (by decide +kernel) ⟨Nat.le_of_ble_eq_true rfl, Nat.le_of_ble_eq_true rfl⟩) (pcW_S hev P_nil (D_nil (A := A))) rfl rfl hl.1 rfl (lv_room (Nat.le_of_ble_eq_true rfl)) dX1_weatherAt_8 ⟨Nat.zero_le _, Nat.zero_le _⟩) hP hS hA (fun H locs hP hS => ?_)
  refine lv_if_eq (tgt := 19) hx hb dX1_weatherAt_11 (by decide) (fun c_1 => ?_) (fun c_1 => ?_)
  · skip
    refine lv_iload_n hx hb dX1_weatherAt_19 rfl (lv_at hl 0 rfl) ?_
    refine lv_bipush (v := 115) hx hb dX1_weatherAt_20 (by decide) ?_
    refine lv_icmp_ne (tgt := 27) hx hb dX1_weatherAt_22 (by decide) (fun c_2 => ?_) (fun c_2 => ?_)
    · skip
      refine lv_iload_n hx hb dX1_weatherAt_27 rfl (lv_at hl 0 rfl) ?_
      refine lv_bipush (v := 102) hx hb dX1_weatherAt_28 (by decide) ?_
      refine lv_icmp_ne (tgt := 36) hx hb dX1_weatherAt_30 (by decide) (fun c_3 => ?_) (fun c_3 => ?_)
      · skip
        refine lv_iload_n hx hb dX1_weatherAt_36 rfl (lv_at hl 0 rfl) ?_
        refine lv_bipush (v := 100) hx hb dX1_weatherAt_37 (by decide) ?_
        refine lv_icmp_ne (tgt := 47) hx hb dX1_weatherAt_39 (by decide) (fun c_4 => ?_) (fun c_4 => ?_)
        · skip
          refine lv_iconst (v := (-1)) hx hb dX1_weatherAt_47 (by decide) ?_
          refine lv_eqi (y := wtC (g i)) (by rw [wtC, if_pos c_1, if_neg c_2, if_neg c_3, if_neg c_4]) ?_
          exact hret _ _ _ _ hP hS dX1_weatherAt_48
        · skip
          refine lv_bipush (v := 11) hx hb dX1_weatherAt_42 (by decide) ?_
          refine lv_goto (tgt := 48) hx hb dX1_weatherAt_44 (by decide) ?_
          refine lv_eqi (y := wtC (g i)) (by rw [wtC, if_pos c_1, if_neg c_2, if_neg c_3, if_pos c_4]) ?_
          exact hret _ _ _ _ hP hS dX1_weatherAt_48
      · skip
        refine lv_bipush (v := 10) hx hb dX1_weatherAt_33 (by decide) ?_
        refine lv_eqi (y := wtC (g i)) (by rw [wtC, if_pos c_1, if_neg c_2, if_pos c_3]) ?_
        exact hret _ _ _ _ hP hS dX1_weatherAt_35
    · skip
      refine lv_iconst (v := 0) hx hb dX1_weatherAt_25 (by decide) ?_
      refine lv_eqi (y := wtC (g i)) (by rw [wtC, if_pos c_1, if_pos c_2]) ?_
      exact hret _ _ _ _ hP hS dX1_weatherAt_26
  · skip
    refine lv_iload_n hx hb dX1_weatherAt_14 rfl (lv_at hl 0 rfl) ?_
    refine lv_bipush (v := 48) hx hb dX1_weatherAt_15 (by decide) ?_
    refine lv_isub hx hb dX1_weatherAt_17 ?_
    refine lv_eqi (y := wtC (g i)) (by rw [wtC, if_neg c_1]) ?_
    exact hret _ _ _ _ hP hS dX1_weatherAt_18
set_option maxHeartbeats 4000000 in
set_option maxRecDepth 100000 in
theorem c_X1_daysTold (l : Launch) (G : va_G) (ca : Nat → ClassId) (hp ap : Nat) (g : Nat → Int32) (n : Nat) (hn : n ≤ 60) : CtI l yX1_daysTold wsX1_daysTold ({ frames := 2, cells := 0, slots := 0, locals := 42 }) [.ref hp] G ca (paT ca hp ap (g, nI n)) (paT ca hp ap (g, nI n)) (dyL g n) := by
  refine CtI.ofW (cc := cX1_daysTold) (maxL := 3) (rt := .int) (by decide) rfl (Nat.le_of_ble_eq_true rfl) rfl ?_
  intro pr en s m be me c A ls Q H hx hb hml hts hown hev hP hD hA hS hl hret
  have hown : s.vm.findClass RX1 = some m.cls := hown
  have hl : lv_has ls 3 [(0, .ref hp)] := hl
  have in_wsX10 : ∀ w ∈ wsX10, w ∈ wsX1_daysTold := fun _ h => List.mem_cons_of_mem _ (List.mem_append_right _ h)
  refine lv_iconst (v := 0) hx hb dX1_daysTold_0 (by decide) ?_
  refine lv_istore_n (lv' := [(1, .int 0), (0, .ref hp)]) hx hb dX1_daysTold_1 rfl hl (by decide) rfl (fun ls hl => ?_)
  refine lv_iconst (v := nI 0) hx hb dX1_daysTold_2 (by decide) ?_
  refine lv_istore_n (lv' := [(2, .int (nI 0)), (1, .int 0), (0, .ref hp)]) hx hb dX1_daysTold_3 rfl hl (by decide) rfl (fun ls hl => ?_)
  have loop_4 : ∀ (q i : Nat), i + q = n → ∀ (H : Heap) (locs : List Loc) (ls : Array Slot), va_P G vwCl (paT ca hp ap (g, nI n)) H → va_D A (paT ca hp ap (g, nI n)) → va_S A s.heap H locs → lv_has ls 3 [(0, .ref hp), (1, .int (dyL g i)), (2, .int (nI i))] → W pr l en ({ frames := 2, cells := 0, slots := 0, locals := 42 } : Room) s m ([.ref hp] : List Value).toArray be me c H locs 0 0 Q (F0 m 4 ls []) := by
    intro q
    induction q with
    | zero =>
      intro i hi H locs ls hP hD hS hl
      obtain rfl : n = i := by omega
      refine lv_iload_n hx hb dX1_daysTold_4 rfl (lv_at hl 2 rfl) ?_
      refine lv_aload_n hx hb dX1_daysTold_5 rfl (lv_at hl 0 rfl) ?_
      refine va_get (D := G) (ci := 1) (v := .int (nI n)) (C := RX1) (T := TX1) (N := 2) hx hb hts in_wsX10 hown hev.1 hP 0 rfl rfl 1 (by decide) (hts (.fieldLink RX1 21 "PuddleMinistries$Pad" "length" "I") (List.mem_of_getElem? (i := 1) rfl)) (fun _ h9 => h9) rfl dX1_daysTold_6 ?_
      refine lv_icmp_ge (tgt := 31) hx hb dX1_daysTold_9 (by decide) (fun c_1 => ?_) (fun c_1 => ?_)
      · skip
        refine lv_iload_n hx hb dX1_daysTold_31 rfl (lv_at hl 1 rfl) ?_
        exact hret _ _ _ _ hP hS dX1_daysTold_32
      · skip
        exact absurd (nI_le (by omega) (by omega)) c_1
    | succ q ih =>
      intro i hi H locs ls hP hD hS hl
      have hlt : i < n := by omega
      refine lv_iload_n hx hb dX1_daysTold_4 rfl (lv_at hl 2 rfl) ?_
      refine lv_aload_n hx hb dX1_daysTold_5 rfl (lv_at hl 0 rfl) ?_
      refine va_get (D := G) (ci := 1) (v := .int (nI n)) (C := RX1) (T := TX1) (N := 2) hx hb hts in_wsX10 hown hev.1 hP 0 rfl rfl 1 (by decide) (hts (.fieldLink RX1 21 "PuddleMinistries$Pad" "length" "I") (List.mem_of_getElem? (i := 1) rfl)) (fun _ h9 => h9) rfl dX1_daysTold_6 ?_
      refine lv_icmp_ge (tgt := 31) hx hb dX1_daysTold_9 (by decide) (fun c_2 => ?_) (fun c_2 => ?_)
      · skip
        exact absurd c_2 (nI_ge (by omega) (by omega))
      · skip
        refine lv_aload_n hx hb dX1_daysTold_12 rfl (lv_at hl 0 rfl) ?_
        refine lv_iload_n hx hb dX1_daysTold_13 rfl (lv_at hl 2 rfl) ?_
        refine goIw (va_runV (As := [.int (nI i)]) (rest := []) ⟨hx, hb, hml, hown, hts⟩ (CtI.use (c_X1_weatherAt l G ca hp ap g n i (by omega)) H.size) (cwV 1 hts gX1_daysTold_X1_weatherAt rfl rfl rfl (by decide +kernel) ⟨Nat.le_of_ble_eq_true rfl, Nat.le_of_ble_eq_true rfl⟩) (pcW_V hev hP hD (q0 := 0) rfl rfl rfl) rfl rfl hl.1 rfl (lv_room (Nat.le_of_ble_eq_true rfl)) dX1_daysTold_14 ⟨Nat.zero_le _, Nat.zero_le _⟩) hD hS hA paF (fun H locs hP hD hS => ?_)
        refine lv_bipush (v := 11) hx hb dX1_daysTold_17 (by decide) ?_
        refine lv_icmp_ne (tgt := 25) hx hb dX1_daysTold_19 (by decide) (fun c_3 => ?_) (fun c_3 => ?_)
        · skip
          refine lv_iinc (v := nI (i + 1)) (lv' := [(2, .int (nI (i + 1))), (0, .ref hp), (1, .int (dyL g i))]) hx hb dX1_daysTold_25 hl (k := 2) rfl (nI_1 _) (by decide) rfl (fun ls hl => ?_)
          refine lv_goto (tgt := 4) hx hb dX1_daysTold_28 (by decide) ?_
          exact ih (i + 1) (by omega) _ _ _ hP (D_of hD paF) hS (by rw [show (dyL g (i + 1)) = (dyL g i) from by rw [dyL_s, if_neg c_3]]; exact lv_sub hl [1, 2, 0] rfl)
        · skip
          refine lv_iinc (v := (dyL g i) + 1) (lv' := [(1, .int ((dyL g i) + 1)), (0, .ref hp), (2, .int (nI i))]) hx hb dX1_daysTold_22 hl (k := 1) rfl (rfl) (by decide) rfl (fun ls hl => ?_)
          refine lv_iinc (v := nI (i + 1)) (lv' := [(2, .int (nI (i + 1))), (1, .int ((dyL g i) + 1)), (0, .ref hp)]) hx hb dX1_daysTold_25 hl (k := 2) rfl (nI_1 _) (by decide) rfl (fun ls hl => ?_)
          refine lv_goto (tgt := 4) hx hb dX1_daysTold_28 (by decide) ?_
          exact ih (i + 1) (by omega) _ _ _ hP (D_of hD paF) hS (by rw [show (dyL g (i + 1)) = ((dyL g i) + 1) from by rw [dyL_s, if_pos c_3]]; exact lv_sub hl [2, 1, 0] rfl)
  exact loop_4 n 0 (by omega) _ _ _ hP (D_of hD paF) hS (lv_sub hl [2, 1, 0] rfl)
set_option maxHeartbeats 4000000 in
set_option maxRecDepth 100000 in
theorem c_X1_findFault (l : Launch) (G : va_G) (ca : Nat → ClassId) (hp ap : Nat) (g : Nat → Int32) (n : Nat) (hn : n ≤ 60) : CtI l yX1_findFault wsX1_findFault ({ frames := 1, cells := 0, slots := 0, locals := 20 }) [.ref hp] G ca (paT ca hp ap (g, nI n)) (paT ca hp ap (g, nI n)) (ffG g n n 0) := by
  refine CtI.ofW (cc := cX1_findFault) (maxL := 4) (rt := .int) (by decide) rfl (Nat.le_of_ble_eq_true rfl) rfl ?_
  intro pr en s m be me c A ls Q H hx hb hml hts hown hev hP hD hA hS hl hret
  have hown : s.vm.findClass RX1 = some m.cls := hown
  have hl : lv_has ls 4 [(0, .ref hp)] := hl
  have in_wsX10 : ∀ w ∈ wsX10, w ∈ wsX1_findFault := fun _ h => List.mem_cons_of_mem _ (List.mem_append_right _ h)
  refine lv_iconst (v := 0) hx hb dX1_findFault_0 (by decide) ?_
  refine lv_istore_n (lv' := [(1, .int 0), (0, .ref hp)]) hx hb dX1_findFault_1 rfl hl (by decide) rfl (fun ls hl => ?_)
  refine lv_iconst (v := nI 0) hx hb dX1_findFault_2 (by decide) ?_
  refine lv_istore_n (lv' := [(2, .int (nI 0)), (1, .int 0), (0, .ref hp)]) hx hb dX1_findFault_3 rfl hl (by decide) rfl (fun ls hl => ?_)
  have loop_4 : ∀ (q i : Nat), i + q = n → ffG g n q i = ffG g n n 0 → ∀ (H : Heap) (locs : List Loc) (ls : Array Slot), va_P G vwCl (paT ca hp ap (g, nI n)) H → va_D A (paT ca hp ap (g, nI n)) → va_S A s.heap H locs → lv_has ls 4 [(0, .ref hp), (1, .int (dueL g i)), (2, .int (nI i))] → W pr l en ({ frames := 1, cells := 0, slots := 0, locals := 20 } : Room) s m ([.ref hp] : List Value).toArray be me c H locs 0 0 Q (F0 m 4 ls []) := by
    intro q
    induction q with
    | zero =>
      intro i hi hr H locs ls hP hD hS hl
      obtain rfl : n = i := by omega
      refine lv_iload_n hx hb dX1_findFault_4 rfl (lv_at hl 2 rfl) ?_
      refine lv_aload_n hx hb dX1_findFault_5 rfl (lv_at hl 0 rfl) ?_
      refine va_get (D := G) (ci := 1) (v := .int (nI n)) (C := RX1) (T := TX1) (N := 2) hx hb hts in_wsX10 hown hev.1 hP 0 rfl rfl 1 (by decide) (hts (.fieldLink RX1 21 "PuddleMinistries$Pad" "length" "I") (List.mem_of_getElem? (i := 1) rfl)) (fun _ h9 => h9) rfl dX1_findFault_6 ?_
      refine lv_icmp_ge (tgt := 60) hx hb dX1_findFault_9 (by decide) (fun c_1 => ?_) (fun c_1 => ?_)
      · skip
        refine lv_iload_n hx hb dX1_findFault_60 rfl (lv_at hl 1 rfl) ?_
        refine lv_if_ne (tgt := 71) hx hb dX1_findFault_61 (by decide) (fun c_2 => ?_) (fun c_2 => ?_)
        · skip
          refine lv_aload_n hx hb dX1_findFault_71 rfl (lv_at hl 0 rfl) ?_
          refine va_get (D := G) (ci := 1) (v := .int (nI n)) (C := RX1) (T := TX1) (N := 2) hx hb hts in_wsX10 hown hev.1 hP 0 rfl rfl 1 (by decide) (hts (.fieldLink RX1 21 "PuddleMinistries$Pad" "length" "I") (List.mem_of_getElem? (i := 1) rfl)) (fun _ h9 => h9) rfl dX1_findFault_72 ?_
          refine lv_goto (tgt := 80) hx hb dX1_findFault_75 (by decide) ?_
          refine lv_eqi (y := ffG g n n 0) (by rw [← hr]; show _ = ffE g n; rw [ffE, if_neg c_2]) ?_
          exact hret _ _ _ _ hP hS dX1_findFault_80
        · skip
          refine lv_aload_n hx hb dX1_findFault_64 rfl (lv_at hl 0 rfl) ?_
          refine va_get (D := G) (ci := 1) (v := .int (nI n)) (C := RX1) (T := TX1) (N := 2) hx hb hts in_wsX10 hown hev.1 hP 0 rfl rfl 1 (by decide) (hts (.fieldLink RX1 21 "PuddleMinistries$Pad" "length" "I") (List.mem_of_getElem? (i := 1) rfl)) (fun _ h9 => h9) rfl dX1_findFault_65 ?_
          refine lv_if_ne (tgt := 78) hx hb dX1_findFault_68 (by decide) (fun c_3 => ?_) (fun c_3 => ?_)
          · skip
            have nc_3 : ¬ n = 0 := fun q => c_3 ((nI_eq (a := n) (b := 0) (by omega) (by omega)).mpr q)
            refine lv_bipush (v := (-6)) hx hb dX1_findFault_78 (by decide) ?_
            refine lv_eqi (y := ffG g n n 0) (by rw [← hr]; show _ = ffE g n; rw [ffE, if_pos c_2, if_neg c_3]) ?_
            exact hret _ _ _ _ hP hS dX1_findFault_80
          · skip
            have nc_3 : n = 0 := (nI_eq (a := n) (b := 0) (by omega) (by omega)).mp c_3
            refine lv_aload_n hx hb dX1_findFault_71 rfl (lv_at hl 0 rfl) ?_
            refine va_get (D := G) (ci := 1) (v := .int (nI n)) (C := RX1) (T := TX1) (N := 2) hx hb hts in_wsX10 hown hev.1 hP 0 rfl rfl 1 (by decide) (hts (.fieldLink RX1 21 "PuddleMinistries$Pad" "length" "I") (List.mem_of_getElem? (i := 1) rfl)) (fun _ h9 => h9) rfl dX1_findFault_72 ?_
            refine lv_goto (tgt := 80) hx hb dX1_findFault_75 (by decide) ?_
            refine lv_eqi (y := ffG g n n 0) (by rw [← hr]; show _ = ffE g n; rw [ffE, if_pos c_2, if_pos c_3]) ?_
            exact hret _ _ _ _ hP hS dX1_findFault_80
      · skip
        exact absurd (nI_le (by omega) (by omega)) c_1
    | succ q ih =>
      intro i hi hr H locs ls hP hD hS hl
      have hlt : i < n := by omega
      refine lv_iload_n hx hb dX1_findFault_4 rfl (lv_at hl 2 rfl) ?_
      refine lv_aload_n hx hb dX1_findFault_5 rfl (lv_at hl 0 rfl) ?_
      refine va_get (D := G) (ci := 1) (v := .int (nI n)) (C := RX1) (T := TX1) (N := 2) hx hb hts in_wsX10 hown hev.1 hP 0 rfl rfl 1 (by decide) (hts (.fieldLink RX1 21 "PuddleMinistries$Pad" "length" "I") (List.mem_of_getElem? (i := 1) rfl)) (fun _ h9 => h9) rfl dX1_findFault_6 ?_
      refine lv_icmp_ge (tgt := 60) hx hb dX1_findFault_9 (by decide) (fun c_4 => ?_) (fun c_4 => ?_)
      · skip
        exact absurd c_4 (nI_ge (by omega) (by omega))
      · skip
        refine lv_aload_n hx hb dX1_findFault_12 rfl (lv_at hl 0 rfl) ?_
        refine va_get (D := G) (ci := 1) (v := .ref ap) (C := RX1) (T := TX1) (N := 2) hx hb hts in_wsX10 hown hev.1 hP 0 rfl rfl 0 (by decide) (hts (.fieldLink RX1 11 "PuddleMinistries$Pad" "signs" "[C") (List.mem_of_getElem? (i := 2) rfl)) (fun _ h9 => h9) rfl dX1_findFault_13 ?_
        refine lv_iload_n hx hb dX1_findFault_16 rfl (lv_at hl 2 rfl) ?_
        refine b_cald hx hb hev.1 hP 1 rfl rfl (j := i) (by omega) (by decide) dX1_findFault_17 ?_
        refine lv_istore_n (lv' := [(3, .int (g i)), (0, .ref hp), (1, .int (dueL g i)), (2, .int (nI i))]) hx hb dX1_findFault_18 rfl hl (by decide) rfl (fun ls hl => ?_)
        refine lv_iload_n hx hb dX1_findFault_19 rfl (lv_at hl 2 rfl) ?_
        refine lv_if_eq (tgt := 33) hx hb dX1_findFault_20 (by decide) (fun c_5 => ?_) (fun c_5 => ?_)
        · skip
          refine lv_iload_n hx hb dX1_findFault_33 rfl (lv_at hl 0 rfl) ?_
          refine goI0 (va_runS (As := [.int (g i)]) (rest := []) ⟨hx, hb, hml, hown, hts⟩ (CtI.use (c_X1_beginsHour l G ca (g i)) H.size) (va_cwS 1 hts gX1_findFault_X1_beginsHour rfl rfl rfl (by decide +kernel) ⟨Nat.le_of_ble_eq_true rfl, Nat.le_of_ble_eq_true rfl⟩) (pcW_S hev P_nil (D_nil (A := A))) rfl rfl hl.1 rfl (lv_room (Nat.le_of_ble_eq_true rfl)) dX1_findFault_34 ⟨Nat.zero_le _, Nat.zero_le _⟩) hP hS hA (fun H locs hP hS => ?_)
          refine lv_if_ne (tgt := 42) hx hb dX1_findFault_37 (by decide) (fun c_6 => ?_) (fun c_6 => ?_)
          · skip
            refine lv_iload_n hx hb dX1_findFault_42 rfl (lv_at hl 0 rfl) ?_
            refine lv_bipush (v := 114) hx hb dX1_findFault_43 (by decide) ?_
            refine lv_icmp_ne (tgt := 52) hx hb dX1_findFault_45 (by decide) (fun c_7 => ?_) (fun c_7 => ?_)
            · skip
              refine lv_iconst (v := 0) hx hb dX1_findFault_52 (by decide) ?_
              refine lv_istore_n (lv' := [(1, .int 0), (3, .int (g i)), (0, .ref hp), (2, .int (nI i))]) hx hb dX1_findFault_53 rfl hl (by decide) rfl (fun ls hl => ?_)
              refine lv_iinc (v := nI (i + 1)) (lv' := [(2, .int (nI (i + 1))), (1, .int 0), (3, .int (g i)), (0, .ref hp)]) hx hb dX1_findFault_54 hl (k := 3) rfl (nI_1 _) (by decide) rfl (fun ls hl => ?_)
              refine lv_goto (tgt := 4) hx hb dX1_findFault_57 (by decide) ?_
              exact ih (i + 1) (by omega) (by rw [← hr, ffG_s, if_neg (by rw [okL, if_pos c_5]; exact c_6)]) _ _ _ hP (D_of hD paF) hS (by rw [show (dueL g (i + 1)) = 0 from by rw [dueL, if_neg c_7]]; exact lv_sub hl [3, 1, 0] rfl)
            · skip
              refine lv_iconst (v := 1) hx hb dX1_findFault_48 (by decide) ?_
              refine lv_goto (tgt := 53) hx hb dX1_findFault_49 (by decide) ?_
              refine lv_istore_n (lv' := [(1, .int 1), (3, .int (g i)), (0, .ref hp), (2, .int (nI i))]) hx hb dX1_findFault_53 rfl hl (by decide) rfl (fun ls hl => ?_)
              refine lv_iinc (v := nI (i + 1)) (lv' := [(2, .int (nI (i + 1))), (1, .int 1), (3, .int (g i)), (0, .ref hp)]) hx hb dX1_findFault_54 hl (k := 3) rfl (nI_1 _) (by decide) rfl (fun ls hl => ?_)
              refine lv_goto (tgt := 4) hx hb dX1_findFault_57 (by decide) ?_
              exact ih (i + 1) (by omega) (by rw [← hr, ffG_s, if_neg (by rw [okL, if_pos c_5]; exact c_6)]) _ _ _ hP (D_of hD paF) hS (by rw [show (dueL g (i + 1)) = 1 from by rw [dueL, if_pos c_7]]; exact lv_sub hl [3, 1, 0] rfl)
          · skip
            refine lv_iload_n hx hb dX1_findFault_40 rfl (lv_at hl 3 rfl) ?_
            refine lv_eqi (y := ffG g n n 0) (by rw [← hr, ffG_s, if_pos (by rw [okL, if_pos c_5]; exact c_6)]) ?_
            exact hret _ _ _ _ hP hS dX1_findFault_41
        · skip
          refine lv_iload_n hx hb dX1_findFault_23 rfl (lv_at hl 0 rfl) ?_
          refine goI0 (va_runS (As := [.int (g i)]) (rest := []) ⟨hx, hb, hml, hown, hts⟩ (CtI.use (c_X1_isAmount l G ca (g i)) H.size) (va_cwS 1 hts gX1_findFault_X1_isAmount rfl rfl rfl (by decide +kernel) ⟨Nat.le_of_ble_eq_true rfl, Nat.le_of_ble_eq_true rfl⟩) (pcW_S hev P_nil (D_nil (A := A))) rfl rfl hl.1 rfl (lv_room (Nat.le_of_ble_eq_true rfl)) dX1_findFault_24 ⟨Nat.zero_le _, Nat.zero_le _⟩) hP hS hA (fun H locs hP hS => ?_)
          refine lv_if_ne (tgt := 42) hx hb dX1_findFault_27 (by decide) (fun c_8 => ?_) (fun c_8 => ?_)
          · skip
            refine lv_iload_n hx hb dX1_findFault_42 rfl (lv_at hl 0 rfl) ?_
            refine lv_bipush (v := 114) hx hb dX1_findFault_43 (by decide) ?_
            refine lv_icmp_ne (tgt := 52) hx hb dX1_findFault_45 (by decide) (fun c_9 => ?_) (fun c_9 => ?_)
            · skip
              refine lv_iconst (v := 0) hx hb dX1_findFault_52 (by decide) ?_
              refine lv_istore_n (lv' := [(1, .int 0), (3, .int (g i)), (0, .ref hp), (2, .int (nI i))]) hx hb dX1_findFault_53 rfl hl (by decide) rfl (fun ls hl => ?_)
              refine lv_iinc (v := nI (i + 1)) (lv' := [(2, .int (nI (i + 1))), (1, .int 0), (3, .int (g i)), (0, .ref hp)]) hx hb dX1_findFault_54 hl (k := 3) rfl (nI_1 _) (by decide) rfl (fun ls hl => ?_)
              refine lv_goto (tgt := 4) hx hb dX1_findFault_57 (by decide) ?_
              exact ih (i + 1) (by omega) (by rw [← hr, ffG_s, if_neg (by rw [okL, if_neg c_5]; exact c_8)]) _ _ _ hP (D_of hD paF) hS (by rw [show (dueL g (i + 1)) = 0 from by rw [dueL, if_neg c_9]]; exact lv_sub hl [3, 1, 0] rfl)
            · skip
              refine lv_iconst (v := 1) hx hb dX1_findFault_48 (by decide) ?_
              refine lv_goto (tgt := 53) hx hb dX1_findFault_49 (by decide) ?_
              refine lv_istore_n (lv' := [(1, .int 1), (3, .int (g i)), (0, .ref hp), (2, .int (nI i))]) hx hb dX1_findFault_53 rfl hl (by decide) rfl (fun ls hl => ?_)
              refine lv_iinc (v := nI (i + 1)) (lv' := [(2, .int (nI (i + 1))), (1, .int 1), (3, .int (g i)), (0, .ref hp)]) hx hb dX1_findFault_54 hl (k := 3) rfl (nI_1 _) (by decide) rfl (fun ls hl => ?_)
              refine lv_goto (tgt := 4) hx hb dX1_findFault_57 (by decide) ?_
              exact ih (i + 1) (by omega) (by rw [← hr, ffG_s, if_neg (by rw [okL, if_neg c_5]; exact c_8)]) _ _ _ hP (D_of hD paF) hS (by rw [show (dueL g (i + 1)) = 1 from by rw [dueL, if_pos c_9]]; exact lv_sub hl [3, 1, 0] rfl)
          · skip
            refine lv_goto (tgt := 40) hx hb dX1_findFault_30 (by decide) ?_
            refine lv_iload_n hx hb dX1_findFault_40 rfl (lv_at hl 3 rfl) ?_
            refine lv_eqi (y := ffG g n n 0) (by rw [← hr, ffG_s, if_pos (by rw [okL, if_neg c_5]; exact c_8)]) ?_
            exact hret _ _ _ _ hP hS dX1_findFault_41
  exact loop_4 n 0 (by omega) (by rfl) _ _ _ hP (D_of hD paF) hS (lv_sub hl [2, 1, 0] rfl)
