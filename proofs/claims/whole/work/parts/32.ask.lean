/-! what the asking methods say: alike -/
section ASK
variable {m d D : Nat} {S : SS} {z : Nat → Int32}
theorem bz1 (m p : Nat) : (if bitz m p = 1 then (1 : Int32) else 0) = bitz m p := by rcases bitz_01 m p with h | h <;> rw [h] <;> decide
theorem bz2 (m p : Nat) : (if bitz m p = 0 then (0 : Int32) else 1) = bitz m p := by rcases bitz_01 m p with h | h <;> rw [h] <;> decide
theorem RSa.zF (h : RSa m d D S z) {p : Nat} (hp : p < 12) : zFz z p = bitz m p := by unfold zFz; rw [h.fb p hp]; exact bz1 m p
theorem RSa.zD (h : RSa m d D S z) {p : Nat} (hp : p < 12) : zDk z p = bitz d p := by unfold zDk; rw [h.db p hp]; exact bz1 d p
theorem RSa.bF (h : RSa m d D S z) (hm : m < 4096) {p : Nat} (hp : p < 12) : bt1 (s_fz S) p = bitz m p := by rw [h.fz]; exact bt1_nI m hm p hp
theorem RSa.bD (h : RSa m d D S z) (hd : d < 4096) {p : Nat} (hp : p < 12) : bt1 (s_dk S) p = bitz d p := by rw [h.dk]; exact bt1_nI d hd p hp
theorem lt1_le0 (x : Int32) : x < 1 ↔ x ≤ 0 := by
  rw [Int32.lt_iff_toInt_lt, Int32.le_iff_toInt_le]; show x.toInt < 1 ↔ x.toInt ≤ 0; omega
theorem RSa.rsn (h : RSa m d D S z) (hm : m < 4096) (hd : d < 4096) {w p : Nat} (hw : w < 6) (hp : p < 12) (x : Int32) : rsnA S w p x = zRs z w p x := by
  unfold rsnA zRs hasP
  rw [h.zF hp, h.zD hp, h.bF hm hp, h.bD hd hp, h.pd w hw p hp, h.wa p hp]
  by_cases e1 : bitz d p = 0
  · rw [if_pos e1, if_pos e1]
    by_cases e2 : z (92 + 12 * w + p) ≤ 0
    · rw [if_pos e2, if_pos e2, if_pos rfl]
      by_cases e3 : bitz m p = 0
      · rw [if_pos e3, if_pos e3, Int32.add_comm 1]
      · rw [if_neg e3, if_neg e3]
        by_cases e4 : z (8 + 5 * p + 1) / 5 ≤ 0
        · rw [if_pos e4, if_pos ((lt1_le0 _).mpr e4)]
        · rw [if_neg e4, if_neg (fun q => e4 ((lt1_le0 _).mp q))]
    · rw [if_neg e2, if_neg e2, if_neg (by decide)]
  · rw [if_neg e1, if_neg e1]
theorem RSa.duty (h : RSa m d D S z) (hm : m < 4096) {p : Nat} (hp : p < 12) : dutyA S p = zDu z p := by
  unfold dutyA zDu; rw [h.zF hp, h.bF hm hp, h.wa p hp, h.se 0 (by omega)]
theorem smD_congr {f g : Nat → Int32} : ∀ n, (∀ k, k < n → f k = g k) → smD f n = smD g n := by
  intro n
  induction n with
  | zero => intro _; rfl
  | succ n ih => intro h; show smD f n + f n = smD g n + g n; rw [ih (fun k hk => h k (by omega)), h n (by omega)]
theorem or_mk {g1 g2 : Nat → Int32} : ∀ n, (∀ k, k < n → g2 k = if g1 k = 0 then 0 else (1 : Int32) <<< (nI k &&& 31)) → orD g2 n = mkD g1 n := by
  intro n
  induction n with
  | zero => intro _; rfl
  | succ n ih =>
    intro h
    show orD g2 n ||| g2 n = if g1 n = 0 then mkD g1 n else mkD g1 n ||| ((1 : Int32) <<< (nI n &&& 31))
    rw [ih (fun k hk => h k (by omega)), h n (by omega)]
    by_cases e : g1 n = 0
    · rw [if_pos e, if_pos e, Int32.or_zero]
    · rw [if_neg e, if_neg e]
theorem mk_mask (g : Nat → Int32) : ∀ n, n ≤ 12 → ∃ M, M < 4096 ∧ mkD g n = nI M ∧ ∀ q, q < 12 → bitz M q = if q < n ∧ ¬ g q = 0 then 1 else 0 := by
  intro n
  induction n with
  | zero => intro _; exact ⟨0, by decide, rfl, fun q hq => by rw [if_neg (by omega)]; unfold bitz; rw [Nat.zero_testBit]; rfl⟩
  | succ n ih =>
    intro hn
    obtain ⟨M, h1, h2, h3⟩ := ih (by omega)
    by_cases e : g n = 0
    · refine ⟨M, h1, by show (if g n = 0 then mkD g n else _) = _; rw [if_pos e, h2], fun q hq => ?_⟩
      rw [h3 q hq]
      by_cases e2 : q = n
      · subst e2; rw [if_neg (by omega), if_neg (fun z => z.2 e)]
      · by_cases e3 : q < n ∧ ¬ g q = 0
        · rw [if_pos e3, if_pos ⟨by omega, e3.2⟩]
        · rw [if_neg e3, if_neg (fun z => e3 ⟨by omega, z.2⟩)]
    · refine ⟨setB M n, setB_lt h1 (by omega), by show (if g n = 0 then mkD g n else _) = _; rw [if_neg e, h2, or1_nI M h1 n (by omega)], fun q hq => ?_⟩
      rw [bitz_set, h3 q hq]
      by_cases e2 : q = n
      · subst e2; rw [if_pos rfl, if_pos ⟨by omega, e⟩]
      · rw [if_neg e2]
        by_cases e3 : q < n ∧ ¬ g q = 0
        · rw [if_pos e3, if_pos ⟨by omega, e3.2⟩]
        · rw [if_neg e3, if_neg (fun z => e3 ⟨by omega, z.2⟩)]
theorem bitz_ext {a b : Nat} (ha : a < 4096) (hb : b < 4096) (h : ∀ q, q < 12 → bitz a q = bitz b q) : a = b := by
  refine Nat.eq_of_testBit_eq (fun q => ?_)
  by_cases hq : q < 12
  · have := h q hq
    unfold bitz at this
    cases e1 : a.testBit q <;> cases e2 : b.testBit q <;> rw [e1, e2] at this <;> first | rfl | exact absurd this (by decide)
  · rw [Nat.testBit_lt_two_pow (Nat.lt_of_lt_of_le ha (Nat.pow_le_pow_right (n := 2) (by decide) (show 12 ≤ q by omega))), Nat.testBit_lt_two_pow (Nat.lt_of_lt_of_le hb (Nat.pow_le_pow_right (n := 2) (by decide) (show 12 ≤ q by omega)))]
theorem mk_bits {M : Nat} (hM : M < 4096) {g : Nat → Int32} (hg : ∀ q, q < 12 → g q = bitz M q) : mkD g 12 = nI M := by
  obtain ⟨N, h1, h2, h3⟩ := mk_mask g 12 (Nat.le_refl _)
  rw [h2, bitz_ext h1 hM (fun q hq => ?_)]
  rw [h3 q hq, hg q hq]
  rcases bitz_01 M q with e | e <;> rw [e]
  · rw [if_neg (fun z => z.2 rfl)]
  · rw [if_pos ⟨hq, by decide⟩]
theorem one_shl : ∀ p, p < 12 → (1 : Int32) <<< (nI p &&& 31) = (1 : Int32) <<< (nI p &&& 31) := fun _ _ => rfl
theorem RSa.c9 (h : RSa m d D S z) (hm : m < 4096) : s_fz S = orD (zWg z 2) 12 := by
  rw [h.fz, ← mk_bits hm (g := bitz m) (fun _ _ => rfl)]
  refine (or_mk 12 (fun k hk => ?_)).symm
  unfold zWg; rw [h.fb k hk]
  rcases bitz_01 m k with e | e <;> rw [e]
  · rw [if_pos rfl]; exact orz_1 k hk
  · rw [if_neg (by decide)]
theorem RSa.c10 (h : RSa m d D S z) (hd : d < 4096) : s_dk S = orD (zWg z 3) 12 := by
  rw [h.dk, ← mk_bits hd (g := bitz d) (fun _ _ => rfl)]
  refine (or_mk 12 (fun k hk => ?_)).symm
  unfold zWg; rw [h.db k hk]
  rcases bitz_01 d k with e | e <;> rw [e]
  · rw [if_pos rfl]; exact orz_1 k hk
  · rw [if_neg (by decide)]
theorem RSa.pg (h : RSa m d D S z) {w : Nat} (hw : w < 6) : mkD (hasP (s_pd S) w) 12 = orD (zPg z w) 12 := by
  refine (or_mk 12 (fun k hk => ?_)).symm
  unfold zPg hasP; rw [h.pd w hw k hk]
  by_cases e : z (92 + 12 * w + k) ≤ 0
  · rw [if_pos e, if_pos e, if_pos rfl]
  · rw [if_neg e, if_neg e, if_neg (by decide)]
theorem RSa.hg (h : RSa m d D S z) {p : Nat} (hp : p < 12) : mkD (fun w => hasP (s_pd S) w p) 6 = orD (zHg z p) 6 := by
  refine (or_mk 6 (fun k hk => ?_)).symm
  unfold zHg; show _ = if hasP (s_pd S) k p = 0 then _ else _
  unfold hasP; rw [h.pd k hk p hp]
  by_cases e : z (92 + 12 * k + p) ≤ 0
  · rw [if_pos e, if_pos e, if_pos rfl]
  · rw [if_neg e, if_neg e, if_neg (by decide)]
theorem RSa.may (h : RSa m d D S z) (hm : m < 4096) (hd : d < 4096) {w : Nat} (hw : w < 6) : mkD (mayC S w) 12 = orD (zMg z w (z (68 + 4 * w + 0))) 12 := by
  refine (or_mk 12 (fun k hk => ?_)).symm
  unfold zMg mayC; rw [h.sh w hw, h.rsn hm hd hw hk]
  by_cases e : zRs z w k (z (68 + 4 * w + 0)) = 0
  · rw [if_pos e, if_pos e, if_neg (by decide)]
  · rw [if_neg e, if_neg e, if_pos rfl]
theorem bc_mk (g : Nat → Int32) : bcN (mkD g 12) = szN (mkD g 12) := by
  obtain ⟨M, h1, h2, -⟩ := mk_mask g 12 (Nat.le_refl _)
  rw [h2]; exact bc_sz M h1
theorem RSa.c11 (h : RSa m d D S z) : smD (fun w => bcN (mkD (hasP (s_pd S) w) 12)) 6 = smD (fun w => szN (orD (zPg z w) 12)) 6 :=
  smD_congr 6 (fun w hw => by show bcN _ = szN _; rw [bc_mk, h.pg hw])
theorem RSa.water (h : RSa m d D S z) : smD (s_wa S) 12 = smD (fun p => z (8 + 5 * p + 1)) 12 := smD_congr 12 (fun p hp => h.wa p hp)
theorem RSa.ows (h : RSa m d D S z) : smD (s_ow S) 6 = smD (fun w => z (68 + 4 * w + 1)) 6 := smD_congr 6 (fun p hp => h.ow p hp)
theorem RSa.pas (h : RSa m d D S z) : smD (s_pa S) 6 = smD (fun w => z (68 + 4 * w + 2)) 6 := smD_congr 6 (fun p hp => h.pa p hp)
theorem plc_lt1 {k f t : Nat} (hf : f < 12) (ht : t < 12) (hk : k < t - f + (f - t) + 1) : plc k f t < 12 := by unfold plc; split <;> omega
theorem stp_stq {g1 g2 : Nat → Int32} : ∀ n i, (∀ k, i ≤ k → k < i + n → (g1 k = 0 ↔ ¬ g2 k = 0)) → stp g1 n i = stq g2 n i := by
  intro n
  induction n with
  | zero => intro i _; rfl
  | succ n ih =>
    intro i h
    have h0 := h i (Nat.le_refl _) (by omega)
    show (if g1 i = 0 then i else stp g1 n (i + 1)) = if g2 i = 0 then stq g2 n (i + 1) else i
    by_cases e : g1 i = 0
    · rw [if_pos e, if_neg (h0.mp e)]
    · rw [if_neg e, if_pos (Classical.not_not.mp (fun z => e (h0.mpr z)))]
      exact ih (i + 1) (fun k hk hk2 => h k (by omega) (by omega))
theorem RSa.stq (h : RSa m d D S z) (hm : m < 4096) (hd : d < 4096) {w f t : Nat} (hw : w < 6) (hf : f < 12) (ht : t < 12) : stU S w f t = zAl z w f t := by
  unfold stU zAl
  refine stp_stq _ _ (fun k _ hk => ?_)
  have hq := plc_lt1 hf ht (k := k) (by omega)
  show mayC S w (plc k f t) = 0 ↔ ¬ zRs z w (plc k f t) (z (68 + 4 * w + 0)) = 0
  unfold mayC; rw [h.sh w hw, h.rsn hm hd hw hq]
  by_cases e : zRs z w (plc k f t) (z (68 + 4 * w + 0)) = 0
  · rw [if_pos e]; exact ⟨fun q => absurd q (by decide), fun q => absurd e q⟩
  · rw [if_neg e]; exact ⟨fun _ => e, fun _ => rfl⟩
theorem stp_le1 (g : Nat → Int32) : ∀ n i, stp g n i ≤ i + n := by
  intro n
  induction n with
  | zero => intro i; exact Nat.le_refl _
  | succ n ih => intro i; show (if g i = 0 then i else stp g n (i + 1)) ≤ _; split
                 · omega
                 · have := ih (i + 1); omega
theorem RSa.cost (h : RSa m d D S z) (hm : m < 4096) (hd : d < 4096) {w f t : Nat} (hw : w < 6) (hf : f < 12) (ht : t < 12) : smD (fun k => dutyA S (plc k f t)) (stU S w f t) = smD (fun k => zDu z (plc k f t)) (zAl z w f t) := by
  rw [← h.stq hm hd hw hf ht]
  refine smD_congr _ (fun k hk => h.duty hm (plc_lt1 hf ht ?_))
  have := stp_le1 (fun k => mayC S w (plc k f t)) (t - f + (f - t) + 1) 0
  unfold stU at hk
  omega
end ASK
