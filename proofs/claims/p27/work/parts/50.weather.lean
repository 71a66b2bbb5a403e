/-! the weather in plain numbers -/
section WEA
variable {S : SS} {N : NN} {B : Nat} {n6 n12 : Nat}
theorem b_0 {m p : Nat} (hm : m < 4096) (hp : p < 12) (c : bt1 (nI m) p = 0) : bN m p = 0 := bN_f ((bz_N hm hp).mp c)
theorem b_1 {m p : Nat} (hm : m < 4096) (hp : p < 12) (c : ¬ bt1 (nI m) p = 0) : m.testBit p = true := by
  cases q : m.testBit p with
  | true => rfl
  | false => exact absurd ((bz_N hm hp).mpr q) c
theorem sun_N (h : Rn S N) (b : Bd B N) : ∀ i, i ≤ 12 → ∃ (W : Nat → Nat) (L : Nat), (∀ j, j < 12 → (shL S i).1 j = nI (W j)) ∧ (∀ j, j < 12 → W j ≤ n_wa N j) ∧ (∀ j, i ≤ j → W j = n_wa N j) ∧ (shL S i).2 = s_dr S + nI L ∧ snN W 12 + L = snN (n_wa N) 12 ∧ L ≤ n_se N 1 * i := by
  intro i
  induction i with
  | zero => intro _; exact ⟨n_wa N, 0, h.wa, fun _ _ => Nat.le_refl _, fun _ _ => rfl, (Int32.add_zero _).symm, rfl, Nat.le_refl _⟩
  | succ i ih =>
    intro hi
    obtain ⟨W, L, h1, h2, h3, h4, h5, h6⟩ := ih (by omega)
    have hb := b.wb i (by omega)
    have hs := b.s1
    have ew := h3 i (Nat.le_refl _)
    have hm6 : n_se N 1 * i ≤ n_se N 1 * (i + 1) := Nat.mul_le_mul_left _ (by omega)
    have hm7 : n_se N 1 * (i + 1) = n_se N 1 * i + n_se N 1 := Nat.mul_succ ..
    by_cases c : bt1 (s_fz S) i = 0
    · rw [shL_z c, h1 i (by omega), h.se 1 (by omega), ew]
      have e1 : (if nI (n_se N 1) < nI (n_wa N i) then nI (n_se N 1) else nI (n_wa N i)) = nI (if n_se N 1 < n_wa N i then n_se N 1 else n_wa N i) := by
        by_cases q : n_se N 1 < n_wa N i
        · rw [if_pos q, if_pos ((nI_ltI (by omega) (by omega)).mpr q)]
        · rw [if_neg q, if_neg (fun z => q ((nI_ltI (by omega) (by omega)).mp z))]
      rw [e1]
      obtain ⟨t, ht⟩ : ∃ t, t = (if n_se N 1 < n_wa N i then n_se N 1 else n_wa N i) := ⟨_, rfl⟩
      rw [← ht]
      have t1 : t ≤ n_wa N i := by rw [ht]; split <;> omega
      have t2 : t ≤ n_se N 1 := by rw [ht]; split <;> omega
      have sm := snN_upd (f := W) (p := i) (x := n_wa N i - t) 12 (by omega)
      refine ⟨updN W i (n_wa N i - t), L + t, ?_, ?_, ?_, ?_, by rw [ew] at sm; omega, by omega⟩
      · show ∀ j, j < 12 → upd (shL S i).1 i (nI (n_wa N i) - nI t) j = _
        rw [pk_sub t1]
        exact upd_N h1
      · intro j hj
        by_cases e : j = i
        · subst e; rw [updN_at]; omega
        · rw [updN_ne e]; exact h2 j hj
      · intro j hj; rw [updN_ne (by omega)]; exact h3 j (by omega)
      · show (shL S i).2 + nI t = _
        rw [h4, Int32.add_assoc, nI_add]
    · rw [shL_n c]
      exact ⟨W, L, h1, h2, fun j hj => h3 j (by omega), h4, h5, by omega⟩
theorem p_sun (h : Rn S N) (b : Bd B N) (h12 : n12 = 12) : ∃ N' T L, Rn (lpS (nI 0) S n6 n12) N' ∧ Bd (B + 1) N' ∧ smD (s_wa (lpS (nI 0) S n6 n12)) 12 = nI T ∧ smD (s_wa S) 12 = nI (T + L) ∧ s_dr (lpS (nI 0) S n6 n12) = s_dr S + nI L ∧ L ≤ 12 * n_se N 1 ∧ T + L ≤ 720 ∧ s_fz (lpS (nI 0) S n6 n12) = nI 0 ∧ s_fe (lpS (nI 0) S n6 n12) = s_fe S ∧ s_dk (lpS (nI 0) S n6 n12) = s_dk S ∧ s_pd (lpS (nI 0) S n6 n12) = s_pd S ∧ s_dy (lpS (nI 0) S n6 n12) = s_dy S ∧ s_se (lpS (nI 0) S n6 n12) = s_se S := by
  have e : lpS (nI 0) S n6 n12 = (s_se S, s_br S, (shL S n12).1, s_cr S, s_sh S, s_ow S, s_pa S, s_cb S, s_pd S, 0, s_dk S, s_dy S, s_fe S, (shL S n12).2, s_dn S) := if_pos rfl
  rw [e]
  obtain ⟨W, L, h1, h2, h3, h4, h5, h6⟩ := sun_N h b n12 (by omega)
  have hw : snN (n_wa N) 12 ≤ 60 * 12 := snN_le 12 (fun k hk => by have := b.wb k hk; omega)
  have t1 : smD (shL S n12).1 12 = nI (snN W 12) := smD_N 12 h1
  have t2 : smD (s_wa S) 12 = nI (snN W 12 + L) := by rw [e_c5 h, h5]
  refine ⟨(n_se N, n_br N, W, n_sh N, n_ow N, n_pd N, 0, n_dk N, n_dy N), snN W 12, L, ⟨h.se, h.br, h1, h.sh, h.ow, h.pd, rfl, h.dk, h.dy, ?_, h.cc⟩, ⟨b.s0, b.s1, b.s2, b.s3, fun p hp => ?_, b.sh, b.up.ow, b.pd, by show 0 < 4096; omega, b.dk, b.up.dy⟩, t1, t2, h4, ?_, by omega, rfl, rfl, rfl, rfl, rfl, rfl⟩
  · show s_fe S = smD (shL S n12).1 12 + (shL S n12).2 + s_dn S
    rw [h.fe, t1, t2, h4, ← nI_add]
    exact i32_5
  · have := b.wb p hp
    have := h2 p hp
    show W p ≤ n_br N p ∧ 1 ≤ n_br N p ∧ n_br N p ≤ 60
    omega
  · rw [h12] at h6; omega
theorem rain_N (h : Rn S N) (b : Bd B N) {x : Nat} (hx : x ≤ 9) : ∀ i, i ≤ 12 → ∃ (W : Nat → Nat) (r : Nat), (∀ j, j < 12 → (rnL S (nI x) i).1 j = nI (W j)) ∧ (∀ j, j < 12 → n_wa N j ≤ W j ∧ W j ≤ n_br N j) ∧ (∀ j, i ≤ j → W j = n_wa N j) ∧ (rnL S (nI x) i).2.2.2 = nI r ∧ r ≤ 69 * i ∧ (rnL S (nI x) i).2.1 = s_fe S + nI (x * (i - popN (n_fz N) i)) ∧ smD (rnL S (nI x) i).1 12 + (rnL S (nI x) i).2.2.1 + (rnL S (nI x) i).2.2.2 + s_fe S = smD (s_wa S) 12 + s_dn S + (rnL S (nI x) i).2.1 := by
  intro i
  induction i with
  | zero =>
    intro _
    refine ⟨n_wa N, 0, h.wa, fun j hj => ⟨Nat.le_refl _, (b.wb j hj).1⟩, fun _ _ => rfl, rfl, Nat.le_refl _, (Int32.add_zero _).symm, ?_⟩
    show smD (s_wa S) 12 + s_dn S + 0 + s_fe S = smD (s_wa S) 12 + s_dn S + s_fe S
    rw [Int32.add_zero]
  | succ i ih =>
    intro hi
    obtain ⟨W, r, h1, h2, h3, h4, h5, h6, h7⟩ := ih (by omega)
    have hb := b.wb i (by omega)
    have ew := h3 i (Nat.le_refl _)
    have hp := popN_le (n_fz N) i
    by_cases c : bt1 (s_fz S) i = 0
    · have cb : bN (n_fz N) i = 0 := b_0 b.fz (by omega) (by rw [← h.fz]; exact c)
      have e0 : (rnL S (nI x) i).1 i + nI x + (rnL S (nI x) i).2.2.2 = nI (n_wa N i + x + r) := by rw [h1 i (by omega), ew, h4, nI_add, nI_add]
      obtain ⟨t, ht⟩ : ∃ t, t = (if n_br N i < n_wa N i + x + r then n_br N i else n_wa N i + x + r) := ⟨_, rfl⟩
      have e1 : (if s_br S i < (rnL S (nI x) i).1 i + nI x + (rnL S (nI x) i).2.2.2 then s_br S i else (rnL S (nI x) i).1 i + nI x + (rnL S (nI x) i).2.2.2) = nI t := by
        rw [e0, h.br i (by omega), ht]
        by_cases q : n_br N i < n_wa N i + x + r
        · rw [if_pos q, if_pos ((nI_ltI (by omega) (by omega)).mpr q)]
        · rw [if_neg q, if_neg (fun z => q ((nI_ltI (by omega) (by omega)).mp z))]
      have t1 : n_wa N i ≤ t ∧ t ≤ n_br N i ∧ t ≤ n_wa N i + x + r := by rw [ht]; split <;> omega
      rw [rnL_z c, e1]
      have sm := smD_upd (f := (rnL S (nI x) i).1) (p := i) (x := nI t) 12 (by omega)
      refine ⟨updN W i t, n_wa N i + x + r - t, upd_N h1, ?_, ?_, ?_, ?_, ?_, ?_⟩
      · intro j hj
        by_cases e : j = i
        · subst e; rw [updN_at]; exact ⟨t1.1, t1.2.1⟩
        · rw [updN_ne e]; exact h2 j hj
      · intro j hj; rw [updN_ne (by omega)]; exact h3 j (by omega)
      · show (rnL S (nI x) i).1 i + nI x + (rnL S (nI x) i).2.2.2 - nI t = _
        rw [e0, pk_sub t1.2.2]
      · omega
      · show (rnL S (nI x) i).2.1 + nI x = _
        rw [h6, Int32.add_assoc, nI_add, popN_s, cb, show i + 1 - (popN (n_fz N) i + 0) = (i - popN (n_fz N) i) + 1 by omega, Nat.mul_succ]
      · exact i32_3 sm h7
    · have cb : bN (n_fz N) i = 1 := bN_t (b_1 b.fz (by omega) (by rw [← h.fz]; exact c))
      rw [rnL_n c]
      refine ⟨W, 0, h1, h2, fun j hj => h3 j (by omega), rfl, by omega, ?_, ?_⟩
      · show (rnL S (nI x) i).2.1 = _
        rw [h6, popN_s, cb, show i + 1 - (popN (n_fz N) i + 1) = i - popN (n_fz N) i by omega]
      · show smD (rnL S (nI x) i).1 12 + ((rnL S (nI x) i).2.2.1 + (rnL S (nI x) i).2.2.2) + 0 + s_fe S = _
        rw [Int32.add_zero, ← Int32.add_assoc]; exact h7
theorem p_rain (h : Rn S N) (b : Bd B N) (h12 : n12 = 12) {x : Nat} (hx1 : 1 ≤ x) (hx : x ≤ 9) : ∃ N' T T', Rn (lpS (nI x) S n6 n12) N' ∧ Bd (B + 1) N' ∧ smD (s_wa (lpS (nI x) S n6 n12)) 12 = nI T' ∧ smD (s_wa S) 12 = nI T ∧ T ≤ T' ∧ T' ≤ 720 ∧ s_fe (lpS (nI x) S n6 n12) = s_fe S + nI (x * (12 - popN (n_fz N) 12)) ∧ s_fz (lpS (nI x) S n6 n12) = s_fz S ∧ s_dr (lpS (nI x) S n6 n12) = s_dr S ∧ s_dk (lpS (nI x) S n6 n12) = s_dk S ∧ s_pd (lpS (nI x) S n6 n12) = s_pd S ∧ s_dy (lpS (nI x) S n6 n12) = s_dy S := by
  have e : lpS (nI x) S n6 n12 = (s_se S, s_br S, (rnL S (nI x) n12).1, s_cr S, s_sh S, s_ow S, s_pa S, s_cb S, s_pd S, s_fz S, s_dk S, s_dy S, (rnL S (nI x) n12).2.1, s_dr S, (rnL S (nI x) n12).2.2.1 + (rnL S (nI x) n12).2.2.2) := by
    unfold lpS
    rw [if_neg (nI_ne0 (by omega) (by omega)), if_neg (fun q => by have := (nI_eq (b := 10) (by omega) (by omega)).mp q; omega), if_neg (fun q => by have := (nI_eq (b := 11) (by omega) (by omega)).mp q; omega), if_neg (nI_nle (by omega) (by omega)), if_neg (fun q => by have := (nI_ltI (a := 9) (by omega) (by omega)).mp q; omega)]
  rw [e]
  obtain ⟨W, r, h1, h2, h3, h4, h5, h6, h7⟩ := rain_N h b hx n12 (by omega)
  have t1 : smD (rnL S (nI x) n12).1 12 = nI (snN W 12) := smD_N 12 h1
  have hw : snN W 12 ≤ 60 * 12 := snN_le 12 (fun k hk => by have := b.wb k hk; have := h2 k hk; omega)
  refine ⟨(n_se N, n_br N, W, n_sh N, n_ow N, n_pd N, n_fz N, n_dk N, n_dy N), snN (n_wa N) 12, snN W 12, ⟨h.se, h.br, h1, h.sh, h.ow, h.pd, h.fz, h.dk, h.dy, ?_, h.cc⟩, ⟨b.s0, b.s1, b.s2, b.s3, fun p hp => ?_, b.sh, b.up.ow, b.pd, b.fz, b.dk, b.up.dy⟩, t1, e_c5 h, snN_mono 12 (fun k hk => (h2 k hk).1), by omega, ?_, rfl, rfl, rfl, rfl, rfl⟩
  · exact i32_4 h7 h.fe
  · have := b.wb p hp
    have := h2 p hp
    show W p ≤ n_br N p ∧ 1 ≤ n_br N p ∧ n_br N p ≤ 60
    omega
  · show (rnL S (nI x) n12).2.1 = _
    rw [h6, h12]
theorem frost_N (h : Rn S N) (b : Bd B N) : ∀ i, i ≤ 12 → ∃ M, M < 4096 ∧ frL S i = nI M ∧ ∀ p, M.testBit p = (decide (p < i ∧ n_wa N p < 20) || (n_fz N).testBit p) := by
  intro i
  induction i with
  | zero => intro _; exact ⟨n_fz N, b.fz, h.fz, fun p => by simp⟩
  | succ i ih =>
    intro hi
    obtain ⟨M, h1, h2, h3⟩ := ih (by omega)
    have hb := b.wb i (by omega)
    rw [frL_s, wa5 h b (by omega)]
    by_cases c : 20 ≤ n_wa N i
    · rw [if_pos (show (4 : Int32) ≤ nI (n_wa N i / 5) from (nI_leI (a := 4) (by omega) (by omega)).mpr (by omega))]
      refine ⟨M, h1, h2, fun p => ?_⟩
      rw [h3]
      by_cases e : p = i
      · subst e; simp; omega
      · exact congrArg (fun z => z || (n_fz N).testBit p) (decide_eq_decide.mpr ⟨fun q => ⟨by omega, q.2⟩, fun q => ⟨by omega, q.2⟩⟩)
    · rw [if_neg (fun q => by have := (nI_leI (a := 4) (by omega) (by omega)).mp q; omega), h2, or1_nI M h1 i (by omega)]
      refine ⟨setB M i, setB_lt h1 (by omega), rfl, fun p => ?_⟩
      rw [setB_bit, h3]
      by_cases e : p = i
      · subst e; simp; omega
      · rw [if_neg e]; exact congrArg (fun z => z || (n_fz N).testBit p) (decide_eq_decide.mpr ⟨fun q => ⟨by omega, q.2⟩, fun q => ⟨by omega, q.2⟩⟩)
theorem p_frost (h : Rn S N) (b : Bd B N) (h12 : n12 = 12) : ∃ N', Rn (lpS (nI 10) S n6 n12) N' ∧ Bd (B + 1) N' ∧ n_wa N' = n_wa N ∧ n_se N' = n_se N ∧ (∀ p, p < 12 → bN (n_fz N') p = if 19 < n_wa N p then bN (n_fz N) p else 1) ∧ s_wa (lpS (nI 10) S n6 n12) = s_wa S ∧ s_se (lpS (nI 10) S n6 n12) = s_se S ∧ s_fe (lpS (nI 10) S n6 n12) = s_fe S ∧ s_dk (lpS (nI 10) S n6 n12) = s_dk S ∧ s_pd (lpS (nI 10) S n6 n12) = s_pd S ∧ s_dy (lpS (nI 10) S n6 n12) = s_dy S := by
  have e : lpS (nI 10) S n6 n12 = (s_se S, s_br S, s_wa S, s_cr S, s_sh S, s_ow S, s_pa S, s_cb S, s_pd S, frL S n12, s_dk S, s_dy S, s_fe S, s_dr S, s_dn S) := by
    unfold lpS
    rw [if_neg (by decide), if_pos (by decide)]
  rw [e]
  obtain ⟨M, h1, h2, h3⟩ := frost_N h b n12 (by omega)
  refine ⟨(n_se N, n_br N, n_wa N, n_sh N, n_ow N, n_pd N, M, n_dk N, n_dy N), ⟨h.se, h.br, h.wa, h.sh, h.ow, h.pd, h2, h.dk, h.dy, h.fe, h.cc⟩, ⟨b.s0, b.s1, b.s2, b.s3, b.wb, b.sh, b.up.ow, b.pd, h1, b.dk, b.up.dy⟩, rfl, rfl, fun p hp => ?_, rfl, rfl, rfl, rfl, rfl, rfl⟩
  show bN M p = _
  unfold bN
  rw [h3, h12]
  by_cases c : 19 < n_wa N p
  · rw [if_pos c]; simp [show ¬ n_wa N p < 20 by omega]
  · rw [if_neg c]; simp [show n_wa N p < 20 by omega, hp]
theorem end_N (h : Rn S N) (b : Bd B N) : ∀ i, i ≤ 12 → ∃ M, M < 4096 ∧ (edL S n6 i).1 = nI M ∧ ∀ p, M.testBit p = decide (p < i ∧ (n_fz N).testBit p = false ∧ n_se N 2 ≤ n_wa N p) := by
  intro i
  induction i with
  | zero => intro _; exact ⟨0, by omega, rfl, fun p => by simp⟩
  | succ i ih =>
    intro hi
    obtain ⟨M, h1, h2, h3⟩ := ih (by omega)
    have hb := b.wb i (by omega)
    have hs := b.s2
    rw [edL_s]
    by_cases c : bt1 (s_fz S) i = 0
    · have cb : (n_fz N).testBit i = false := (bz_N b.fz (by omega)).mp (by rw [← h.fz]; exact c)
      rw [if_pos c, h.wa i (by omega), h.se 2 (by omega)]
      by_cases c2 : n_wa N i < n_se N 2
      · rw [if_pos ((nI_ltI (by omega) (by omega)).mpr c2)]
        refine ⟨M, h1, h2, fun p => ?_⟩
        rw [h3]
        by_cases e : p = i
        · subst e; simp; omega
        · exact decide_eq_decide.mpr ⟨fun q => ⟨by omega, q.2⟩, fun q => ⟨by omega, q.2⟩⟩
      · rw [if_neg (fun q => c2 ((nI_ltI (by omega) (by omega)).mp q))]
        refine ⟨setB M i, setB_lt h1 (by omega), ?_, fun p => ?_⟩
        · show (edL S n6 i).1 ||| _ = _
          rw [h2]; exact or1_nI M h1 i (by omega)
        · rw [setB_bit, h3]
          by_cases e : p = i
          · subst e; simp [cb]; omega
          · rw [if_neg e]; exact decide_eq_decide.mpr ⟨fun q => ⟨by omega, q.2⟩, fun q => ⟨by omega, q.2⟩⟩
    · have cb : (n_fz N).testBit i = true := b_1 b.fz (by omega) (by rw [← h.fz]; exact c)
      rw [if_neg c]
      refine ⟨M, h1, h2, fun p => ?_⟩
      rw [h3]
      by_cases e : p = i
      · subst e; simp [cb]
      · exact decide_eq_decide.mpr ⟨fun q => ⟨by omega, q.2⟩, fun q => ⟨by omega, q.2⟩⟩
theorem age_N (a : Nat) (ha : a ≤ 30) : age1 (nI a) = nI (a - 1) := by
  unfold age1
  by_cases c : a = 0
  · subst c; rfl
  · rw [if_neg (nI_nle (by omega) (by omega))]
    exact pk_sub (b := 1) (by omega)
theorem p_end (h : Rn S N) (b : Bd B N) (h6 : n6 = 6) (h12 : n12 = 12) : ∃ N', Rn (lpS (nI 11) S n6 n12) N' ∧ Bd (B + 1) N' ∧ n_wa N' = n_wa N ∧ n_se N' = n_se N ∧ n_fz N' = n_fz N ∧ (∀ p, p < 12 → bN (n_dk N') p = if n_se N 2 ≤ n_wa N p ∧ bN (n_fz N) p = 0 then 1 else 0) ∧ pmN N' ≤ pmN N ∧ s_wa (lpS (nI 11) S n6 n12) = s_wa S ∧ s_se (lpS (nI 11) S n6 n12) = s_se S ∧ s_fe (lpS (nI 11) S n6 n12) = s_fe S ∧ s_fz (lpS (nI 11) S n6 n12) = s_fz S ∧ s_dy (lpS (nI 11) S n6 n12) = s_dy S + 1 := by
  have e : lpS (nI 11) S n6 n12 = (s_se S, s_br S, s_wa S, s_cr S, s_sh S, s_ow S, s_pa S, s_cb S, (edL S n6 n12).2, s_fz S, (edL S n6 n12).1, s_dy S + 1, s_fe S, s_dr S, s_dn S) := by
    unfold lpS
    rw [if_neg (by decide), if_neg (by decide), if_pos (by decide)]
  rw [e]
  obtain ⟨M, h1, h2, h3⟩ := end_N (n6 := n6) h b n12 (by omega)
  have hpd : ∀ j, j < 72 → (edL S n6 n12).2 j = nI ((fun j => if bt1 (s_fz S) (j % 12) = 0 then n_pd N j - 1 else n_pd N j) j) := by
    intro j hj
    rw [edL_pd S h6 n12 (by omega) j hj, h.pd j hj]
    by_cases c : bt1 (s_fz S) (j % 12) = 0
    · rw [if_pos ⟨by omega, c⟩, age_N _ (b.pd j hj)]
      show _ = nI (if bt1 (s_fz S) (j % 12) = 0 then n_pd N j - 1 else n_pd N j)
      rw [if_pos c]
    · rw [if_neg (fun q => c q.2)]
      show _ = nI (if bt1 (s_fz S) (j % 12) = 0 then n_pd N j - 1 else n_pd N j)
      rw [if_neg c]
  refine ⟨(n_se N, n_br N, n_wa N, n_sh N, n_ow N, (fun j => if bt1 (s_fz S) (j % 12) = 0 then n_pd N j - 1 else n_pd N j), n_fz N, M, n_dy N + 1), ⟨h.se, h.br, h.wa, h.sh, h.ow, hpd, h.fz, h2, ?_, h.fe, h.cc⟩, ⟨b.s0, b.s1, b.s2, b.s3, b.wb, b.sh, b.up.ow, fun j hj => ?_, b.fz, h1, ?_⟩, rfl, rfl, rfl, fun p hp => ?_, ?_, rfl, rfl, rfl, rfl, rfl⟩
  · show s_dy S + 1 = nI (n_dy N + 1)
    rw [h.dy, nI_1]
  · have := b.pd j hj
    show (if bt1 (s_fz S) (j % 12) = 0 then n_pd N j - 1 else n_pd N j) ≤ 30
    split <;> omega
  · have := b.dy
    show n_dy N + 1 ≤ B + 1
    omega
  · show bN M p = _
    unfold bN
    rw [h3, h12]
    cases q : (n_fz N).testBit p with
    | true => simp
    | false => simp [hp]
  · refine snN_mono 6 (fun w hw => ?_)
    show popN (mkN _ 12) 12 ≤ popN (mkN _ 12) 12
    rw [pop_mk _ (Nat.le_refl _), pop_mk _ (Nat.le_refl _)]
    refine snN_mono 12 (fun p hp => ?_)
    unfold perB
    show (if decide (0 < (if bt1 (s_fz S) ((w * 12 + p) % 12) = 0 then n_pd N (w * 12 + p) - 1 else n_pd N (w * 12 + p))) = true then 1 else 0) ≤ (if decide (0 < n_pd N (w * 12 + p)) = true then 1 else 0)
    by_cases c : 0 < n_pd N (w * 12 + p)
    · rw [if_pos (decide_eq_true c)]; (repeat' split) <;> omega
    · rw [if_neg (by simp; split <;> omega)]; omega
end WEA
