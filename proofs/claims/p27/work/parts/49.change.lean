/-! every change keeps the bounds and the sums -/
section CHG
theorem i32_1 {a a' dn x z : Int32} (h : a' + x = a + z) : a' + (dn + (x - z)) = a + dn := by
  rw [Int32.sub_eq_add_neg]
  have e : a' + (dn + (x + -z)) = (a' + x) + (dn + -z) := by ac_rfl
  rw [e, h]
  have e2 : (a + z) + (dn + -z) = (a + dn) + (z + -z) := by ac_rfl
  rw [e2, Int32.add_right_neg, Int32.add_zero]
theorem i32_2 {a a' dn dn' dr : Int32} (h : a' + dn' = a + dn) : a + dr + dn = a' + dr + dn' := by
  have e : a + dr + dn = (a + dn) + dr := by ac_rfl
  have e2 : a' + dr + dn' = (a' + dn') + dr := by ac_rfl
  rw [e, e2, h]
theorem i32_6 (a b : Int32) : a + b - a = b := by
  rw [Int32.sub_eq_add_neg]
  have e : a + b + -a = b + (a + -a) := by ac_rfl
  rw [e, Int32.add_right_neg, Int32.add_zero]
theorem i32_3 {a a' dn r x old new fe0 c fe : Int32} (h : a' + old = a + new) (h2 : a + dn + r + fe0 = c + fe) : a' + dn + (old + x + r - new) + fe0 = c + (fe + x) := by
  rw [Int32.sub_eq_add_neg]
  have e : a' + dn + (old + x + r + -new) + fe0 = (a' + old) + (dn + x + r + -new + fe0) := by ac_rfl
  rw [e, h]
  have e2 : (a + new) + (dn + x + r + -new + fe0) = (a + dn + r + fe0) + x + (new + -new) := by ac_rfl
  rw [e2, h2, Int32.add_right_neg, Int32.add_zero, Int32.add_assoc]
theorem i32_c {a b c : Int32} (h : a + b = a + c) : b = c := by
  have h := congrArg (fun q : Int32 => q - a) h
  simp only [i32_6] at h
  exact h
theorem i32_4 {s' d r fe0 c d0 fe' dr : Int32} (h : s' + d + r + fe0 = c + d0 + fe') (h2 : fe0 = c + dr + d0) : fe' = s' + dr + (d + r) := by
  subst h2
  have e : s' + d + r + (c + dr + d0) = (c + d0) + (s' + dr + (d + r)) := by ac_rfl
  rw [e] at h
  exact (i32_c h).symm
theorem i32_5 {a l dr dn : Int32} : (a + l) + dr + dn = a + (dr + l) + dn := by
  rw [Int32.add_assoc a, Int32.add_comm l]
theorem i32_7 {u d c k : Int32} (e : u + c = d + (c + k)) : u = d + k := by
  have e1 : c + u = c + (d + k) := by
    rw [Int32.add_comm c u, e]; ac_rfl
  exact i32_c e1
def updN (f : Nat → Nat) (k x : Nat) : Nat → Nat := fun j => if j = k then x else f j
theorem updN_at (f : Nat → Nat) (k x : Nat) : updN f k x k = x := if_pos rfl
theorem updN_ne {f : Nat → Nat} {k j x : Nat} (h : j ≠ k) : updN f k x j = f j := if_neg h
theorem upd_N {f : Nat → Int32} {F : Nat → Nat} {n k q : Nat} (h : ∀ j, j < n → f j = nI (F j)) : ∀ j, j < n → upd f k (nI q) j = nI (updN F k q j) := by
  intro j hj
  by_cases e : j = k
  · subst e; rw [upd_at, updN_at]
  · rw [upd_ne e, updN_ne e, h j hj]
theorem snN_upd {f : Nat → Nat} {p x : Nat} : ∀ n, p < n → snN (updN f p x) n + f p = snN f n + x := by
  intro n
  induction n with
  | zero => intro h; omega
  | succ n ih =>
    intro h
    show snN (updN f p x) n + updN f p x n + f p = snN f n + f n + x
    by_cases c : p = n
    · subst c
      rw [updN_at, snN_congr (f := updN f p x) (g := f) p (fun k hk => updN_ne (by omega))]; omega
    · rw [updN_ne (Ne.symm c)]; have := ih (by omega); omega
def Gd (B : Nat) (S : SS) : Prop := ∃ N, Rn S N ∧ Bd B N
variable {S : SS} {N : NN} {B : Nat}
theorem Gd.up (h : Gd B S) : Gd (B + 1) S := h.elim (fun N h => ⟨N, h.1, h.2.up⟩)
theorem g_set (h : Rn S N) (b : Bd B N) {k q : Nat} (hk : k < 4) (h0 : k < 2 → q ≤ 20) (h2 : k = 2 → 1 ≤ q ∧ q ≤ 99) (h3 : k = 3 → 1 ≤ q ∧ q ≤ 30) : Gd (B + 1) (upd (s_se S) k (nI q), s_br S, s_wa S, s_cr S, s_sh S, s_ow S, s_pa S, s_cb S, s_pd S, s_fz S, s_dk S, s_dy S, s_fe S, s_dr S, s_dn S) := by
  refine ⟨(updN (n_se N) k q, N.2), ⟨upd_N h.se, h.br, h.wa, h.sh, h.ow, h.pd, h.fz, h.dk, h.dy, h.fe, h.cc⟩, ?_, ?_, ?_, ?_, b.up.wb, b.up.sh, b.up.ow, b.up.pd, b.up.fz, b.up.dk, b.up.dy⟩
  · show updN (n_se N) k q 0 ≤ 20
    by_cases e : 0 = k
    · rw [← e, updN_at]; exact h0 (by omega)
    · rw [updN_ne e]; exact b.s0
  · show updN (n_se N) k q 1 ≤ 20
    by_cases e : 1 = k
    · rw [← e, updN_at]; exact h0 (by omega)
    · rw [updN_ne e]; exact b.s1
  · show 1 ≤ updN (n_se N) k q 2 ∧ updN (n_se N) k q 2 ≤ 99
    by_cases e : 2 = k
    · rw [← e, updN_at]; exact h2 e.symm
    · rw [updN_ne e]; exact b.s2
  · show 1 ≤ updN (n_se N) k q 3 ∧ updN (n_se N) k q 3 ≤ 30
    by_cases e : 3 = k
    · rw [← e, updN_at]; exact h3 e.symm
    · rw [updN_ne e]; exact b.s3
theorem dn_wa (h : Rn S N) (b : Bd B N) {p q : Nat} (hp : p < 12) (hq : q ≤ 60) : ∀ j, j < 12 → dnWa (s_wa S) p (nI q) j = nI (updN (n_wa N) p (if q < n_wa N p then q else n_wa N p) j) := by
  intro j hj
  have hb := b.wb p hp
  unfold dnWa
  rw [h.wa p hp]
  by_cases c : q < n_wa N p
  · rw [if_pos c, pk_sub (by omega), if_pos (show (0 : Int32) < nI (n_wa N p - q) from (nI_ltI (a := 0) (by omega) (by omega)).mpr (by omega))]
    exact upd_N h.wa j hj
  · have c1 : ¬ (0 : Int32) < nI (n_wa N p) - nI q := by
      by_cases e : n_wa N p = q
      · rw [e, pk_sub (Nat.le_refl _), Nat.sub_self]; decide
      · intro z
        exact absurd z (Int32.not_lt.mpr (Int32.le_of_lt (pk_sneg (a := n_wa N p) (b := q) (by omega) (by omega))))
    rw [if_neg c, if_neg c1]
    by_cases e : j = p
    · subst e; rw [updN_at, h.wa j hj]
    · rw [updN_ne e, h.wa j hj]
theorem dn_fe (wa : Nat → Int32) (dn : Int32) {p : Nat} (hp : p < 12) (x : Int32) : smD (dnWa wa p x) 12 + dnDn wa dn p x = smD wa 12 + dn := by
  unfold dnWa dnDn
  by_cases c : 0 < wa p - x
  · rw [if_pos c, if_pos c]
    exact i32_1 (smD_upd 12 hp)
  · rw [if_neg c, if_neg c]
theorem g_brim (h : Rn S N) (b : Bd B N) {p q : Nat} (hp : p < 12) (h1 : 1 ≤ q) (h2 : q ≤ 60) : Gd (B + 1) (s_se S, upd (s_br S) p (nI q), dnWa (s_wa S) p (nI q), s_cr S, s_sh S, s_ow S, s_pa S, s_cb S, s_pd S, s_fz S, s_dk S, s_dy S, s_fe S, s_dr S, dnDn (s_wa S) (s_dn S) p (nI q)) := by
  refine ⟨(n_se N, updN (n_br N) p q, updN (n_wa N) p (if q < n_wa N p then q else n_wa N p), n_sh N, n_ow N, n_pd N, n_fz N, n_dk N, n_dy N), ⟨h.se, upd_N h.br, dn_wa h b hp h2, h.sh, h.ow, h.pd, h.fz, h.dk, h.dy, h.fe.trans (i32_2 (dn_fe _ _ hp _)), h.cc⟩, b.s0, b.s1, b.s2, b.s3, ?_, b.up.sh, b.up.ow, b.up.pd, b.up.fz, b.up.dk, b.up.dy⟩
  intro j hj
  have := b.wb j hj
  show updN (n_wa N) p (if q < n_wa N p then q else n_wa N p) j ≤ updN (n_br N) p q j ∧ 1 ≤ updN (n_br N) p q j ∧ updN (n_br N) p q j ≤ 60
  by_cases e : j = p
  · subst e; rw [updN_at, updN_at]; exact ⟨by split <;> omega, h1, h2⟩
  · rw [updN_ne e, updN_ne e]; exact this
theorem g_drain (h : Rn S N) (b : Bd B N) {p : Nat} (hp : p < 12) : Gd (B + 1) (s_se S, s_br S, dnWa (s_wa S) p 0, s_cr S, s_sh S, s_ow S, s_pa S, s_cb S, s_pd S, thaw1 (s_fz S) p, s_dk S, s_dy S, s_fe S, s_dr S, dnDn (s_wa S) (s_dn S) p 0) := by
  refine ⟨(n_se N, n_br N, updN (n_wa N) p (if 0 < n_wa N p then 0 else n_wa N p), n_sh N, n_ow N, n_pd N, clrB (n_fz N) p, n_dk N, n_dy N), ⟨h.se, h.br, dn_wa h b hp (Nat.zero_le _), h.sh, h.ow, h.pd, ?_, h.dk, h.dy, h.fe.trans (i32_2 (dn_fe _ _ hp _)), h.cc⟩, b.s0, b.s1, b.s2, b.s3, ?_, b.up.sh, b.up.ow, b.up.pd, clrB_lt b.fz, b.up.dk, b.up.dy⟩
  · show thaw1 (s_fz S) p = nI (clrB (n_fz N) p)
    rw [h.fz]; exact thaw1_nI _ b.fz p hp
  · intro j hj
    have := b.wb j hj
    show updN (n_wa N) p (if 0 < n_wa N p then 0 else n_wa N p) j ≤ n_br N j ∧ 1 ≤ n_br N j ∧ n_br N j ≤ 60
    by_cases e : j = p
    · subst e; rw [updN_at]; exact ⟨by split <;> omega, this.2⟩
    · rw [updN_ne e]; exact this
theorem drain_1 (h : Rn S N) (b : Bd B N) {p : Nat} (hp : p < 12) : dnWa (s_wa S) p 0 p = nI 0 := by
  have := dn_wa h b hp (Nat.zero_le 60) p hp
  rw [updN_at] at this
  refine this.trans (congrArg nI ?_)
  split <;> omega
theorem drain_3 (h : Rn S N) (b : Bd B N) {p : Nat} (hp : p < 12) : (if bt1 (thaw1 (s_fz S) p) p = 0 then (0 : Int32) else 1) = nI 0 := by
  rw [h.fz, thaw1_nI _ b.fz p hp, if_pos ((bz_N (clrB_lt b.fz) hp).mpr (by rw [clrB_bit hp, if_pos rfl]))]
  rfl
theorem g_shoes (h : Rn S N) (b : Bd B N) {w q : Nat} (hq : q ≤ 3) : Gd (B + 1) (s_se S, s_br S, s_wa S, s_cr S, upd (s_sh S) w (nI q), s_ow S, s_pa S, s_cb S, s_pd S, s_fz S, s_dk S, s_dy S, s_fe S, s_dr S, s_dn S) := by
  refine ⟨(n_se N, n_br N, n_wa N, updN (n_sh N) w q, n_ow N, n_pd N, n_fz N, n_dk N, n_dy N), ⟨h.se, h.br, h.wa, upd_N h.sh, h.ow, h.pd, h.fz, h.dk, h.dy, h.fe, h.cc⟩, b.s0, b.s1, b.s2, b.s3, b.wb, ?_, b.up.ow, b.up.pd, b.up.fz, b.up.dk, b.up.dy⟩
  intro j hj
  show updN (n_sh N) w q j ≤ 3
  by_cases e : j = w
  · subst e; rw [updN_at]; exact hq
  · rw [updN_ne e]; exact b.sh j hj
theorem g_permit (h : Rn S N) (b : Bd B N) (j0 : Nat) : ∃ N', Rn (s_se S, s_br S, s_wa S, s_cr S, s_sh S, s_ow S, s_pa S, s_cb S, upd (s_pd S) j0 (s_se S 3), s_fz S, s_dk S, s_dy S, s_fe S, s_dr S, s_dn S) N' ∧ Bd (B + 1) N' := by
  have h3 := b.s3
  refine ⟨(n_se N, n_br N, n_wa N, n_sh N, n_ow N, updN (n_pd N) j0 (n_se N 3), n_fz N, n_dk N, n_dy N), ⟨h.se, h.br, h.wa, h.sh, h.ow, ?_, h.fz, h.dk, h.dy, h.fe, h.cc⟩, b.s0, b.s1, b.s2, b.s3, b.wb, b.sh, b.up.ow, ?_, b.up.fz, b.up.dk, b.up.dy⟩
  · show ∀ j, j < 72 → upd (s_pd S) j0 (s_se S 3) j = nI (updN (n_pd N) j0 (n_se N 3) j)
    rw [h.se 3 (by omega)]
    exact upd_N h.pd
  · intro j hj
    show updN (n_pd N) j0 (n_se N 3) j ≤ 30
    by_cases e : j = j0
    · subst e; rw [updN_at]; omega
    · rw [updN_ne e]; exact b.pd j hj
theorem g_pay (h : Rn S N) (b : Bd B N) (w : Nat) (pa' : Nat → Int32) : Gd (B + 1) (s_se S, s_br S, s_wa S, s_cr S, s_sh S, upd (s_ow S) w 0, pa', s_cb S, s_pd S, s_fz S, s_dk S, s_dy S, s_fe S, s_dr S, s_dn S) := by
  refine ⟨(n_se N, n_br N, n_wa N, n_sh N, updN (n_ow N) w 0, n_pd N, n_fz N, n_dk N, n_dy N), ⟨h.se, h.br, h.wa, h.sh, upd_N (q := 0) h.ow, h.pd, h.fz, h.dk, h.dy, h.fe, h.cc⟩, b.s0, b.s1, b.s2, b.s3, b.wb, b.sh, ?_, b.up.pd, b.up.fz, b.up.dk, b.up.dy⟩
  intro j hj
  show updN (n_ow N) w 0 j ≤ _
  by_cases e : j = w
  · subst e; rw [updN_at]; exact Nat.zero_le _
  · rw [updN_ne e]; exact b.up.ow j hj
theorem duty_N (h : Rn S N) (b : Bd B N) {p : Nat} (hp : p < 12) : ∃ a, a ≤ 240 ∧ dutyA S p = nI a := by
  have h1 := b.wb p hp
  have h2 := b.s0
  unfold dutyA
  split
  · refine ⟨n_se N 0 * (n_wa N p / 5), ?_, by rw [h.se 0 (by omega), wa5 h b hp, pk_mul]⟩
    exact Nat.le_trans (Nat.mul_le_mul h2 (show n_wa N p / 5 ≤ 12 by omega)) (by decide)
  · exact ⟨0, Nat.zero_le _, rfl⟩
theorem plc_in {k f t : Nat} (hf : f < 12) (ht : t < 12) (hk : k < t - f + (f - t) + 1) : plc k f t < 12 := by
  unfold plc; split <;> omega
theorem cost_N (h : Rn S N) (b : Bd B N) {f t : Nat} (hf : f < 12) (ht : t < 12) : ∀ n, n ≤ t - f + (f - t) + 1 → ∃ a, a ≤ 240 * n ∧ smD (fun k => dutyA S (plc k f t)) n = nI a := by
  intro n
  induction n with
  | zero => intro _; exact ⟨0, Nat.le_refl _, rfl⟩
  | succ n ih =>
    intro hn
    obtain ⟨a, h1, h2⟩ := ih (by omega)
    obtain ⟨c, h3, h4⟩ := duty_N h b (plc_in hf ht (k := n) (by omega))
    refine ⟨a + c, by omega, ?_⟩
    show smD (fun k => dutyA S (plc k f t)) n + dutyA S (plc n f t) = _
    rw [h2, h4, nI_add]
theorem stU_b (S : SS) (w f t : Nat) : stU S w f t ≤ t - f + (f - t) + 1 := by
  have := stp_le1 (fun k => mayC S w (plc k f t)) (t - f + (f - t) + 1) 0
  unfold stU; omega
theorem crS_cr (S : SS) (w : Nat) {f t : Nat} (hf : f < 12) (ht : t < 12) : ∀ n, n ≤ t - f + (f - t) + 1 → smD (s_cr (crS S w f t n)) 12 = smD (s_cr S) 12 + nI n := by
  intro n
  induction n with
  | zero => intro _; show smD (s_cr S) 12 = smD (s_cr S) 12 + 0; rw [Int32.add_zero]
  | succ n ih =>
    intro hn
    have e := smD_upd (f := s_cr (crS S w f t n)) (x := s_cr (crS S w f t n) (plc n f t) + 1) 12 (plc_in hf ht (k := n) (by omega))
    show smD (upd (s_cr (crS S w f t n)) (plc n f t) (s_cr (crS S w f t n) (plc n f t) + 1)) 12 = _
    rw [i32_7 e, ih (by omega), Int32.add_assoc, nI_1]
theorem g_walk (h : Rn S N) (b : Bd B N) {w f t : Nat} (hw : w < 6) (hf : f < 12) (ht : t < 12) : Gd (B + 1) (crS S w f t (stU S w f t)) := by
  have hn := stU_b S w f t
  obtain ⟨a, h1, h2⟩ := cost_N h b hf ht _ hn
  have h3 := b.ow w hw
  have e1 : s_ow S w + smD (fun k => dutyA S (plc k f t)) (stU S w f t) = nI (n_ow N w + a) := by rw [h2, h.ow w hw, nI_add]
  rw [crS_eq, e1]
  refine ⟨(n_se N, n_br N, n_wa N, n_sh N, updN (n_ow N) w (n_ow N w + a), n_pd N, n_fz N, n_dk N, n_dy N), ⟨h.se, h.br, h.wa, h.sh, upd_N h.ow, h.pd, h.fz, h.dk, h.dy, h.fe, ?_⟩, b.s0, b.s1, b.s2, b.s3, b.wb, b.sh, ?_, b.up.pd, b.up.fz, b.up.dk, b.up.dy⟩
  · show smD (upd (s_cb S) w (s_cb S w + nI (stU S w f t))) 6 = smD (s_cr (crS S w f t (stU S w f t))) 12
    rw [crS_cr S w hf ht _ hn, ← h.cc]
    exact i32_7 (smD_upd 6 hw)
  · intro j hj
    show updN (n_ow N) w (n_ow N w + a) j ≤ _
    by_cases e : j = w
    · subst e; rw [updN_at]; omega
    · rw [updN_ne e]; exact b.up.ow j hj
end CHG
