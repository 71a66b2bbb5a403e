/-! the rest of the operations: alike; what they stand on -/
section HLP2
variable {l : Launch} {G : va_G} {ca : Nat → ClassId} {tL tM : Nat} {A : AD} {h5 : Nat} {a5 : Nat → Nat} {v : VV} {M : MM} {y4 y5 : MethodName} {ws4 ws5 : List Cond} {as4 as5 : List Value}
/-- the class's world with one state of the history picked out, its pad and present open -/
abbrev PK (ca : Nat → ClassId) (A : AD) (v : VV) (g : Nat → Int32) (np n : Nat) (rf : Nat → Option Nat) (kj : Nat) (bj : Nat → Nat) (Tj S : SS) (O : va_W) : va_W := xoT A.1.1 A.1.2.1 A.1.2.2.1 A.1.2.2.2.1 A.1.2.2.2.2.1 ++ (paT ca A.1.2.2.1 A.1.2.2.2.2.2.1 (g, nI np) ++ (hiT ca A.1.2.2.2.1 A.1.2.2.2.2.2.2.1 (nI n) rf ++ (stT ca kj bj Tj ++ (stT ca A.1.2.1 A.2.1.1 S ++ (O ++ SLW ca A v.2.2.2.2.2.2.1 v.2.2.2.2.2.2.2)))))
theorem op_askS {r4 r5 : Int32} {rm4 rm5 : Room} (hR : Rel A v M) (hr : r4 = r5)
    (h4 : ∀ (kj : Nat) (bj : Nat → Nat) (Tj : SS) (O : va_W), CtS l y4 ws4 rm4 (.ref A.1.1 :: as4) G ca tL tM (PK ca A v v.2.1 v.2.2.1 v.2.2.2.1 v.2.2.2.2.1 kj bj Tj v.1 O) (PK ca A v v.2.1 v.2.2.1 v.2.2.2.1 v.2.2.2.2.1 kj bj Tj v.1 O) r4)
    (h5c : CtI l y5 ws5 rm5 (.ref h5 :: as5) G ca (moT ca h5 a5 M) (moT ca h5 a5 M) r5) (hroom : (rm4.frames ≤ 8 ∧ rm4.cells ≤ 0 ∧ rm4.slots ≤ 0 ∧ rm4.locals ≤ 290) ∧ (rm5.frames ≤ 8 ∧ rm5.cells ≤ 0 ∧ rm5.slots ≤ 0 ∧ rm5.locals ≤ 290)) : StepAt l G ca tL tM A h5 a5 v M y4 ws4 as4 y5 ws5 as5 := by
  subst hr
  obtain ⟨⟨q1, q2, q3, q4⟩, q5, q6, q7, q8⟩ := hroom
  exact ⟨r4, v, M, hR, (ask_step h4).room q1 q2 q3 q4, (h5c.toS tL tM).room q5 q6 q7 q8⟩
/-- the pad changes, nothing else of the class -/
theorem op_pad {r4 r5 : Int32} {rm4 rm5 : Room} {g' : Nat → Int32} {np' : Nat} {M' : MM} (hR : Rel A (v.1, g', np', v.2.2.2) M') (hr : r4 = r5)
    (h4 : ∀ (kj : Nat) (bj : Nat → Nat) (Tj : SS) (O : va_W), CtI l y4 ws4 rm4 (.ref A.1.1 :: as4) G ca (PK ca A v v.2.1 v.2.2.1 v.2.2.2.1 v.2.2.2.2.1 kj bj Tj v.1 O) (PK ca A v g' np' v.2.2.2.1 v.2.2.2.2.1 kj bj Tj v.1 O) r4)
    (h5c : CtI l y5 ws5 rm5 (.ref h5 :: as5) G ca (moT ca h5 a5 M) (moT ca h5 a5 M') r5) (hroom : (rm4.frames ≤ 8 ∧ rm4.cells ≤ 0 ∧ rm4.slots ≤ 0 ∧ rm4.locals ≤ 290) ∧ (rm5.frames ≤ 8 ∧ rm5.cells ≤ 0 ∧ rm5.slots ≤ 0 ∧ rm5.locals ≤ 290)) : StepAt l G ca tL tM A h5 a5 v M y4 ws4 as4 y5 ws5 as5 := by
  subst hr
  obtain ⟨⟨q1, q2, q3, q4⟩, q5, q6, q7, q8⟩ := hroom
  exact ⟨r4, (v.1, g', np', v.2.2.2), M', hR, (ask_step (fun kj bj Tj O => (h4 kj bj Tj O).toS tL tM)).room q1 q2 q3 q4, (h5c.toS tL tM).room q5 q6 q7 q8⟩
/-- the state changes and is recorded, and the pad may change -/
theorem op_recP {r4 r5 : Int32} {rm4 rm5 : Room} {S' : SS} {g' : Nat → Int32} {np' : Nat} {M' : MM} {n820 : Nat} (h820 : n820 = 820) (hR : Rel A v M) (hr : r4 = r5) (hS : RSx S' (m_z M'))
    (e1 : m_past M' = recP (m_past M) (m_z M) v.2.2.2.1 n820) (e2 : m_states M' = nI (recN v.2.2.2.1)) (e3 : g' = m_pad M') (e4 : m_typed M' = nI np') (e5 : np' ≤ 60) (e6 : m_isSaved M' = m_isSaved M) (e7 : m_slots M' = m_slots M)
    (h4 : ∀ (kj : Nat) (bj : Nat → Nat) (Tj : SS) (O : va_W), recT v.2.2.2.1 v.2.2.2.2.1 = some kj → (∀ i, i < 6 → ∃ (v1 x : Nat) (y : List Value), v.2.2.2.2.1 i = some v1 ∧ (hiT ca A.1.2.2.2.1 A.1.2.2.2.2.2.2.1 (nI v.2.2.2.1) v.2.2.2.2.1 ++ (stT ca kj bj Tj ++ (stT ca A.1.2.1 A.2.1.1 v.1 ++ O)))[x]? = some (v1, .inr (3, y))) →
      CtI l y4 ws4 rm4 (.ref A.1.1 :: as4) G ca (PK ca A v v.2.1 v.2.2.1 v.2.2.2.1 v.2.2.2.2.1 kj bj Tj v.1 O) (PK ca A v g' np' (recN v.2.2.2.1) (recR v.2.2.2.1 v.2.2.2.2.1) kj bj v.1 S' O) r4)
    (h5c : CtI l y5 ws5 rm5 (.ref h5 :: as5) G ca (moT ca h5 a5 M) (moT ca h5 a5 M') r5)
    (hroom : (rm4.frames ≤ 8 ∧ rm4.cells ≤ 0 ∧ rm4.slots ≤ 0 ∧ rm4.locals ≤ 290) ∧ (rm5.frames ≤ 8 ∧ rm5.cells ≤ 0 ∧ rm5.slots ≤ 0 ∧ rm5.locals ≤ 290)) : StepAt l G ca tL tM A h5 a5 v M y4 ws4 as4 y5 ws5 as5 := by
  subst hr
  obtain ⟨⟨q1, q2, q3, q4⟩, q5, q6, q7, q8⟩ := hroom
  obtain ⟨r1, ⟨π, r2⟩, r3, r4', r5', r6, r7⟩ := hR
  obtain ⟨j0, π', g1, g2⟩ := rec_step (tL := tL) (tM := tM) (SL := SLW ca A v.2.2.2.2.2.2.1 v.2.2.2.2.2.2.2) r2 r1 h820 (fun kj bj Tj O f1 f2 => (h4 kj bj Tj O f1 f2).toS tL tM)
  refine ⟨r4, (S', g', np', recN v.2.2.2.1, recR v.2.2.2.1 v.2.2.2.2.1, updT v.2.2.2.2.2.1 j0 v.1, v.2.2.2.2.2.2.1, v.2.2.2.2.2.2.2), M', ⟨hS, ⟨π', ?_⟩, e2, e3, e4, e5, ?_⟩, g2.room q1 q2 q3 q4, (h5c.toS tL tM).room q5 q6 q7 q8⟩
  · rw [e1]; exact g1
  · rw [e6, e7]; exact r7
theorem rpD_le (g : Nat → Int32) {n : Nat} (hn : n ≤ 60) : ∀ j, (rpD g n j).2 ≤ n := by
  intro j
  induction j with
  | zero => exact (rhO_le g (Nat.zero_le _) hn).1
  | succ j ih => exact (rhO_le g ih hn).1
theorem rpG_pos (g : Nat → Int32) {n : Nat} (hn : n ≤ 60) : ∀ q i, (rpG g n q i).2.2 ≤ n := by
  intro q
  induction q with
  | zero => intro i; rw [rpG_0]; exact rpD_le g hn i
  | succ q ih =>
    intro i
    rw [rpG_s]
    split
    · exact rpD_le g hn i
    · split
      · exact rpD_le g hn i
      · exact ih _
theorem nI_n6 {k : Nat} (hk : k ≤ 60) : ¬ nI k = -6 := by
  intro q
  have h1 : ∀ k, k < 61 → ¬ nI k = -6 := by decide +kernel
  exact h1 k (by omega) q
theorem lN_of (x : Int64) : ∃ y : Nat, y < 2 ^ 64 ∧ x = lN y := by
  refine ⟨x.toBitVec.toNat, x.toBitVec.isLt, ?_⟩
  unfold lN
  apply Int64.toBitVec_inj.mp
  show x.toBitVec = BitVec.ofNat 64 x.toBitVec.toNat
  rw [BitVec.ofNat_toNat, BitVec.setWidth_eq]
theorem Rel.pad (hR : Rel A v M) : v.2.1 = m_pad M := hR.2.2.2.1
theorem Rel.ty (hR : Rel A v M) : m_typed M = nI v.2.2.1 := hR.2.2.2.2.1
theorem Rel.np (hR : Rel A v M) : v.2.2.1 ≤ 60 := hR.2.2.2.2.2.1
theorem pull {a x b y : va_W} (h : x.Perm (b ++ y)) : (a ++ x).Perm (b ++ (a ++ y)) := (h.append_left a).trans perm4
theorem push {a x y : va_W} (h : x.Perm y) : (a ++ x).Perm (a ++ y) := h.append_left a
end HLP2
section OPS2
variable {l : Launch} {G : va_G} {ca : Nat → ClassId} {tL tM : Nat} {A : AD} {h5 : Nat} {a5 : Nat → Nat} {v : VV} {M : MM}
theorem out_toInt {x : Int32} {N : Nat} (hN : N < 2 ^ 31) (h : x < 0 ∨ nI (N + 1) ≤ x) (hM : (nI (N + 1)).toInt = ((N + 1 : Nat) : Int)) : x.toInt < 0 ∨ ((N : Nat) : Int) < x.toInt := by
  rcases h with h | h
  · exact Or.inl (Int32.lt_iff_toInt_lt.mp h)
  · have := Int32.le_iff_toInt_le.mp h
    rw [hM] at this
    exact Or.inr (by omega)
theorem st_pass (hR : Rel A v M) (x : Int32) : StepAt l G ca tL tM A h5 a5 v M yX4_pass wsX4_pass [.int x] yX5_pass wsX5_pass [.int x] := by
  obtain ⟨m, d, D, hm, hd, hD, h⟩ := hR.1
  by_cases c : x < 0 ∨ ¬ x ≤ 11
  · refine op_ask hR ?_ (fun kj bj Tj O => c_X4_pass_out l G ca _ _ _ _ _ _ _ _ _ _ _ _ _ _ _ _ O _ x c) (c_X5_pass_out l G ca h5 a5 M x c) (by decide); rfl
  · have c1 : ¬ x < 0 := fun q => c (Or.inl q)
    have c2 : x ≤ 11 := Classical.not_not.mp (fun q => c (Or.inr q))
    have e9 : (9999 ≤ s_dy v.1) ↔ m_z M 4 = 9999 := by
      rw [h.dy, h.z4, show (9999 : Int32) = nI 9999 from rfl, nI_leI (by decide) (by omega), nI_eq (by omega) (by decide)]; omega
    by_cases c3 : x = 11 ∧ 9999 ≤ s_dy v.1
    · obtain ⟨rfl, c4⟩ := c3
      refine op_ask hR ?_ (fun kj bj Tj O => c_X4_pass_many l G ca _ _ _ _ _ _ _ _ _ _ _ _ _ _ _ _ O _ c4) (c_X5_pass_many l G ca h5 a5 M (e9.mp c4)) (by decide); rfl
    · have key : ∀ n12 n72 : Nat, n12 = 12 → n72 = 72 → ∃ m1 d1, m1 < 4096 ∧ d1 < 4096 ∧ RSa m1 d1 (if x = 11 then D + 1 else D) (lpS x v.1 6 n12) (zLp x (m_z M) n12 n72) := by
        rintro n12 n72 rfl rfl
        exact h.pass hm hd c1 c2 rfl
      obtain ⟨n12, h12⟩ : ∃ n : Nat, n = 12 := ⟨_, rfl⟩
      obtain ⟨n72, h72⟩ : ∃ n : Nat, n = 72 := ⟨_, rfl⟩
      obtain ⟨m1, d1, q1, q2, q3⟩ := key n12 n72 h12 h72
      refine op_rec (n820 := 820) rfl hR ?_ ?_ (fun kj bj Tj O e1 e2 => (c_X4_pass_ok l G ca _ _ _ _ _ _ _ _ _ _ _ _ _ _ _ _ O _ x 6 n12 hR.n6 e1 e2 c1 c2 c3 rfl h12).toS tL tM) (c_X5_pass_ok l G ca h5 a5 M x n12 n72 _ 820 hR.st hR.n6 rfl c1 c2 (fun q => c3 ⟨q.1, e9.mpr q.2⟩) h12 h72) (by decide)
      · exact q3.water
      · refine ⟨m1, d1, _, q1, q2, ?_, q3⟩
        by_cases c5 : x = 11
        · rw [if_pos c5]; have c6 : ¬ 9999 ≤ s_dy v.1 := fun q => c3 ⟨c5, q⟩
          rw [h.dy, show (9999 : Int32) = nI 9999 from rfl, nI_leI (by decide) (by omega)] at c6; omega
        · rw [if_neg c5]; exact hD
theorem st_puddle (hR : Rel A v M) (x y : Int32) : StepAt l G ca tL tM A h5 a5 v M yX4_puddle wsX4_puddle [.int x, .int y] yX5_puddle wsX5_puddle [.int x, .int y] := by
  obtain ⟨m, d, D, hm, hd, hD, h⟩ := hR.1
  rcases in6 x 12 (by decide) with hx | ⟨p, hp, rfl⟩
  · refine op_ask hR ?_ (fun kj bj Tj O => c_X4_puddle_out l G ca _ _ _ _ _ _ _ _ _ _ _ _ _ _ _ _ O _ x y hx) (c_X5_puddle_out l G ca h5 a5 M x y hx) (by decide); rfl
  rcases in6 y 7 (by decide) with hy | ⟨k, hk, rfl⟩
  · have hv := out_toInt (N := 6) (by decide) hy (by decide)
    refine op_ask hR ?_ (fun kj bj Tj O => c_X4_puddle_bad l G ca _ _ _ _ _ _ _ _ _ _ _ _ _ _ _ _ O _ p y hp hv) (c_X5_puddle_bad l G ca h5 a5 M p y hp hv) (by decide); rfl
  match k, hk with
  | 0, _ => refine op_ask hR ?_ (fun kj bj Tj O => c_X4_puddle_0 l G ca _ _ _ _ _ _ _ _ _ _ _ _ _ _ _ _ O _ p hp) (c_X5_puddle_0 l G ca h5 a5 M p hp) (by decide); exact h.br p hp
  | 1, _ => refine op_ask hR ?_ (fun kj bj Tj O => c_X4_puddle_1 l G ca _ _ _ _ _ _ _ _ _ _ _ _ _ _ _ _ O _ p hp) (c_X5_puddle_1 l G ca h5 a5 M p hp) (by decide); exact h.wa p hp
  | 2, _ => refine op_ask hR ?_ (fun kj bj Tj O => c_X4_puddle_2 l G ca _ _ _ _ _ _ _ _ _ _ _ _ _ _ _ _ O _ p hp) (c_X5_puddle_2 l G ca h5 a5 M p hp) (by decide); exact congrArg (fun q : Int32 => q / 5) (h.wa p hp)
  | 3, _ => refine op_ask hR ?_ (fun kj bj Tj O => c_X4_puddle_3 l G ca _ _ _ _ _ _ _ _ _ _ _ _ _ _ _ _ O _ p hp) (c_X5_puddle_3 l G ca h5 a5 M p hp) (by decide); exact (by rw [h.bF hm hp, h.fb p hp]; exact bz2 m p)
  | 4, _ => refine op_ask hR ?_ (fun kj bj Tj O => c_X4_puddle_4 l G ca _ _ _ _ _ _ _ _ _ _ _ _ _ _ _ _ O _ p hp) (c_X5_puddle_4 l G ca h5 a5 M p hp) (by decide); exact (by rw [h.bD hd hp, h.db p hp]; exact bz2 d p)
  | 5, _ => refine op_ask hR ?_ (fun kj bj Tj O => c_X4_puddle_5 l G ca _ _ _ _ _ _ _ _ _ _ _ _ _ _ _ _ O _ p hp) (c_X5_puddle_5 l G ca h5 a5 M p hp) (by decide); exact h.cr p hp
  | 6, _ => refine op_ask hR ?_ (fun kj bj Tj O => c_X4_puddle_6 l G ca _ _ _ _ _ _ _ _ _ _ _ _ _ _ _ _ O _ p hp) (c_X5_puddle_6 l G ca h5 a5 M p hp) (by decide); exact h.hg hp
  | k + 7, hk => exact absurd hk (by omega)
theorem st_walker (hR : Rel A v M) (x y : Int32) : StepAt l G ca tL tM A h5 a5 v M yX4_walker wsX4_walker [.int x, .int y] yX5_walker wsX5_walker [.int x, .int y] := by
  obtain ⟨m, d, D, hm, hd, hD, h⟩ := hR.1
  rcases in6 x 6 (by decide) with hx | ⟨w, hw, rfl⟩
  · refine op_ask hR ?_ (fun kj bj Tj O => c_X4_walker_out l G ca _ _ _ _ _ _ _ _ _ _ _ _ _ _ _ _ O _ x y hx) (c_X5_walker_out l G ca h5 a5 M x y hx) (by decide); rfl
  rcases in6 y 6 (by decide) with hy | ⟨k, hk, rfl⟩
  · have hv := out_toInt (N := 5) (by decide) hy (by decide)
    refine op_ask hR ?_ (fun kj bj Tj O => c_X4_walker_bad l G ca _ _ _ _ _ _ _ _ _ _ _ _ _ _ _ _ O _ w y hw hv) (c_X5_walker_bad l G ca h5 a5 M w y hw hv) (by decide); rfl
  match k, hk with
  | 0, _ => refine op_ask hR ?_ (fun kj bj Tj O => c_X4_walker_0 l G ca _ _ _ _ _ _ _ _ _ _ _ _ _ _ _ _ O _ w hw) (c_X5_walker_0 l G ca h5 a5 M w hw) (by decide); exact h.sh w hw
  | 1, _ => refine op_ask hR ?_ (fun kj bj Tj O => c_X4_walker_1 l G ca _ _ _ _ _ _ _ _ _ _ _ _ _ _ _ _ O _ w hw) (c_X5_walker_1 l G ca h5 a5 M w hw) (by decide); exact h.ow w hw
  | 2, _ => refine op_ask hR ?_ (fun kj bj Tj O => c_X4_walker_2 l G ca _ _ _ _ _ _ _ _ _ _ _ _ _ _ _ _ O _ w hw) (c_X5_walker_2 l G ca h5 a5 M w hw) (by decide); exact h.pa w hw
  | 3, _ => refine op_ask hR ?_ (fun kj bj Tj O => c_X4_walker_3 l G ca _ _ _ _ _ _ _ _ _ _ _ _ _ _ _ _ O _ w hw) (c_X5_walker_3 l G ca h5 a5 M w hw) (by decide); exact h.cb w hw
  | 4, _ => refine op_ask hR ?_ (fun kj bj Tj O => c_X4_walker_4 l G ca _ _ _ _ _ _ _ _ _ _ _ _ _ _ _ _ O _ w hw) (c_X5_walker_4 l G ca h5 a5 M w hw) (by decide); exact h.pg hw
  | 5, _ => refine op_ask hR ?_ (fun kj bj Tj O => c_X4_walker_5 l G ca _ _ _ _ _ _ _ _ _ _ _ _ _ _ _ _ O _ w hw) (c_X5_walker_5 l G ca h5 a5 M w hw) (by decide); exact h.may hm hd hw
  | k + 6, hk => exact absurd hk (by omega)
theorem st_count (hR : Rel A v M) (x : Int32) : StepAt l G ca tL tM A h5 a5 v M yX4_count wsX4_count [.int x] yX5_count wsX5_count [.int x] := by
  obtain ⟨m, d, D, hm, hd, hD, h⟩ := hR.1
  rcases in6 x 16 (by decide) with hx | ⟨k, hk, rfl⟩
  · have hv := out_toInt (N := 15) (by decide) hx (by decide)
    refine op_ask hR ?_ (fun kj bj Tj O => c_X4_count_bad l G ca _ _ _ _ _ _ _ _ _ _ _ _ _ _ _ _ O _ x hv) (c_X5_count_bad l G ca h5 a5 M x hv) (by decide); rfl
  match k, hk with
  | 0, _ => refine op_ask hR ?_ (fun kj bj Tj O => c_X4_count_0 l G ca _ _ _ _ _ _ _ _ _ _ _ _ _ _ _ _ O _ 0 (by decide)) (c_X5_count_0 l G ca h5 a5 M ) (by decide); exact h.se 0 (by decide)
  | 1, _ => refine op_ask hR ?_ (fun kj bj Tj O => c_X4_count_0 l G ca _ _ _ _ _ _ _ _ _ _ _ _ _ _ _ _ O _ 1 (by decide)) (c_X5_count_1 l G ca h5 a5 M ) (by decide); exact h.se 1 (by decide)
  | 2, _ => refine op_ask hR ?_ (fun kj bj Tj O => c_X4_count_0 l G ca _ _ _ _ _ _ _ _ _ _ _ _ _ _ _ _ O _ 2 (by decide)) (c_X5_count_2 l G ca h5 a5 M ) (by decide); exact h.se 2 (by decide)
  | 3, _ => refine op_ask hR ?_ (fun kj bj Tj O => c_X4_count_0 l G ca _ _ _ _ _ _ _ _ _ _ _ _ _ _ _ _ O _ 3 (by decide)) (c_X5_count_3 l G ca h5 a5 M ) (by decide); exact h.se 3 (by decide)
  | 4, _ => refine op_ask hR ?_ (fun kj bj Tj O => c_X4_count_4 l G ca _ _ _ _ _ _ _ _ _ _ _ _ _ _ _ _ O _ ) (c_X5_count_4 l G ca h5 a5 M ) (by decide); exact h.dy.trans h.z4.symm
  | 5, _ => refine op_ask hR ?_ (fun kj bj Tj O => c_X4_count_5 l G ca _ _ _ _ _ _ _ _ _ _ _ _ _ _ _ _ O _ ) (c_X5_count_5 l G ca h5 a5 M ) (by decide); exact h.water
  | 6, _ => refine op_ask hR ?_ (fun kj bj Tj O => c_X4_count_6 l G ca _ _ _ _ _ _ _ _ _ _ _ _ _ _ _ _ O _ ) (c_X5_count_6 l G ca h5 a5 M ) (by decide); exact h.fe
  | 7, _ => refine op_ask hR ?_ (fun kj bj Tj O => c_X4_count_7 l G ca _ _ _ _ _ _ _ _ _ _ _ _ _ _ _ _ O _ ) (c_X5_count_7 l G ca h5 a5 M ) (by decide); exact h.dr
  | 8, _ => refine op_ask hR ?_ (fun kj bj Tj O => c_X4_count_8 l G ca _ _ _ _ _ _ _ _ _ _ _ _ _ _ _ _ O _ ) (c_X5_count_8 l G ca h5 a5 M ) (by decide); exact h.dn
  | 9, _ => refine op_ask hR ?_ (fun kj bj Tj O => c_X4_count_9 l G ca _ _ _ _ _ _ _ _ _ _ _ _ _ _ _ _ O _ ) (c_X5_count_9 l G ca h5 a5 M ) (by decide); exact h.c9 hm
  | 10, _ => refine op_ask hR ?_ (fun kj bj Tj O => c_X4_count_10 l G ca _ _ _ _ _ _ _ _ _ _ _ _ _ _ _ _ O _ ) (c_X5_count_10 l G ca h5 a5 M ) (by decide); exact h.c10 hd
  | 11, _ => refine op_ask hR ?_ (fun kj bj Tj O => c_X4_count_11 l G ca _ _ _ _ _ _ _ _ _ _ _ _ _ _ _ _ O _ ) (c_X5_count_11 l G ca h5 a5 M ) (by decide); exact h.c11
  | 12, _ => refine op_ask hR ?_ (fun kj bj Tj O => c_X4_count_12 l G ca _ _ _ _ _ _ _ _ _ _ _ _ _ _ _ _ O _ ) (c_X5_count_12 l G ca h5 a5 M ) (by decide); exact h.ows
  | 13, _ => refine op_ask hR ?_ (fun kj bj Tj O => c_X4_count_13 l G ca _ _ _ _ _ _ _ _ _ _ _ _ _ _ _ _ O _ ) (c_X5_count_13 l G ca h5 a5 M ) (by decide); exact h.pas
  | 14, _ => refine op_ask hR ?_ (fun kj bj Tj O => c_X4_count_14 l G ca _ _ _ _ _ _ _ _ _ _ _ _ _ _ _ _ O _ ) (c_X5_count_14 l G ca h5 a5 M ) (by decide); exact hR.2.2.2.2.1.symm
  | 15, _ => refine op_ask hR ?_ (fun kj bj Tj O => c_X4_count_15 l G ca _ _ _ _ _ _ _ _ _ _ _ _ _ _ _ _ O _ ) (c_X5_count_15 l G ca h5 a5 M ) (by decide); exact hR.st.symm
  | k + 16, hk => exact absurd hk (by omega)
theorem st_set (hR : Rel A v M) (x y : Int32) : StepAt l G ca tL tM A h5 a5 v M yX4_set wsX4_set [.int x, .int y] yX5_set wsX5_set [.int x, .int y] := by
  obtain ⟨m, d, D, hm, hd, hD, h⟩ := hR.1
  rcases in6 x 4 (by decide) with hx | ⟨k, hk, rfl⟩
  · have hv := out_toInt (N := 3) (by decide) hx (by decide)
    refine op_askS hR ?_ (fun kj bj Tj O => c_X4_set_out l G ca tL tM _ _ _ _ _ _ _ _ _ _ _ _ _ _ _ _ O _ x y hx) (c_X5_set_out l G ca h5 a5 M x y hv) (by decide); rfl
  match k, hk with
  | 0, _ =>
    by_cases c : y < 0 ∨ ¬ y ≤ 20
    · refine op_askS hR ?_ (fun kj bj Tj O => c_X4_set_bad l G ca tL tM _ _ _ _ _ _ _ _ _ _ _ _ _ _ _ _ O _ 0 y (by decide) c) (c_X5_set_bad0 l G ca h5 a5 M y c) (by decide); rfl
    · have c1 : ¬ y < 0 := fun q => c (Or.inl q)
      have c2 : y ≤ 20 := Classical.not_not.mp (fun q => c (Or.inr q))
      refine op_rec (n820 := 820) rfl hR ?_ ?_ (fun kj bj Tj O e1 e2 => c_X4_set_ok l G ca tL tM _ _ _ _ _ _ _ _ _ _ _ _ _ _ _ _ O _ 0 y hR.n6 e1 e2 (by decide) c1 c2) (c_X5_set_ok0 l G ca h5 a5 M y _ 820 hR.st hR.n6 rfl c1 c2) (by decide)
      · exact h.se 0 (by decide)
      · exact ⟨m, d, D, hm, hd, hD, h.u_se (by decide) c1⟩
  | 1, _ =>
    by_cases c : y < 0 ∨ ¬ y ≤ 20
    · refine op_askS hR ?_ (fun kj bj Tj O => c_X4_set_bad l G ca tL tM _ _ _ _ _ _ _ _ _ _ _ _ _ _ _ _ O _ 1 y (by decide) c) (c_X5_set_bad1 l G ca h5 a5 M y c) (by decide); rfl
    · have c1 : ¬ y < 0 := fun q => c (Or.inl q)
      have c2 : y ≤ 20 := Classical.not_not.mp (fun q => c (Or.inr q))
      refine op_rec (n820 := 820) rfl hR ?_ ?_ (fun kj bj Tj O e1 e2 => c_X4_set_ok l G ca tL tM _ _ _ _ _ _ _ _ _ _ _ _ _ _ _ _ O _ 1 y hR.n6 e1 e2 (by decide) c1 c2) (c_X5_set_ok1 l G ca h5 a5 M y _ 820 hR.st hR.n6 rfl c1 c2) (by decide)
      · exact h.se 1 (by decide)
      · exact ⟨m, d, D, hm, hd, hD, h.u_se (by decide) c1⟩
  | 2, _ =>
    by_cases c : y < 1 ∨ ¬ y ≤ 99
    · refine op_askS hR ?_ (fun kj bj Tj O => c_X4_set_bad l G ca tL tM _ _ _ _ _ _ _ _ _ _ _ _ _ _ _ _ O _ 2 y (by decide) c) (c_X5_set_bad2 l G ca h5 a5 M y c) (by decide); rfl
    · have c1 : ¬ y < 1 := fun q => c (Or.inl q)
      have c2 : y ≤ 99 := Classical.not_not.mp (fun q => c (Or.inr q))
      refine op_rec (n820 := 820) rfl hR ?_ ?_ (fun kj bj Tj O e1 e2 => c_X4_set_ok l G ca tL tM _ _ _ _ _ _ _ _ _ _ _ _ _ _ _ _ O _ 2 y hR.n6 e1 e2 (by decide) c1 c2) (c_X5_set_ok2 l G ca h5 a5 M y _ 820 hR.st hR.n6 rfl c1 c2) (by decide)
      · exact h.se 2 (by decide)
      · exact ⟨m, d, D, hm, hd, hD, h.u_se (by decide) (fun q => c1 (Int32.lt_of_lt_of_le q (by decide)))⟩
  | 3, _ =>
    by_cases c : y < 1 ∨ ¬ y ≤ 30
    · refine op_askS hR ?_ (fun kj bj Tj O => c_X4_set_bad l G ca tL tM _ _ _ _ _ _ _ _ _ _ _ _ _ _ _ _ O _ 3 y (by decide) c) (c_X5_set_bad3 l G ca h5 a5 M y c) (by decide); rfl
    · have c1 : ¬ y < 1 := fun q => c (Or.inl q)
      have c2 : y ≤ 30 := Classical.not_not.mp (fun q => c (Or.inr q))
      refine op_rec (n820 := 820) rfl hR ?_ ?_ (fun kj bj Tj O e1 e2 => c_X4_set_ok l G ca tL tM _ _ _ _ _ _ _ _ _ _ _ _ _ _ _ _ O _ 3 y hR.n6 e1 e2 (by decide) c1 c2) (c_X5_set_ok3 l G ca h5 a5 M y _ 820 hR.st hR.n6 rfl c1 c2) (by decide)
      · exact h.se 3 (by decide)
      · exact ⟨m, d, D, hm, hd, hD, h.u_se (by decide) (fun q => c1 (Int32.lt_of_lt_of_le q (by decide)))⟩
  | k + 4, hk => exact absurd hk (by omega)
theorem st_wipe (hR : Rel A v M) : StepAt l G ca tL tM A h5 a5 v M yX4_wipe wsX4_wipe [] yX5_wipe wsX5_wipe [] := by
  refine op_pad (g' := v.2.1) (np' := 0) (M' := (m_z M, m_past M, m_states M, m_slots M, m_isSaved M, m_pad M, nI 0, m_spot M, m_told M, m_toldMany M)) ?_ rfl (fun kj bj Tj O => c_X4_wipe l G ca _ _ _ _ _ _ _ _ _ _ _ _ _ _ _ _ O _ ) (c_X5_wipe l G ca h5 a5 M v.2.2.1 hR.ty hR.np) (by decide)
  exact ⟨hR.1, hR.2.1, hR.2.2.1, hR.pad, rfl, Nat.zero_le _, hR.2.2.2.2.2.2⟩
theorem st_put (hR : Rel A v M) (x : Int64) : StepAt l G ca tL tM A h5 a5 v M yX4_put wsX4_put [.long x] yX5_put wsX5_put [.long x] := by
  obtain ⟨y, hy, rfl⟩ := lN_of x
  have two := ch_mc hy 8 0 (by omega)
  rcases two with ⟨c1, c2⟩ | ⟨c1, c2, c3⟩
  · refine op_ask hR ?_ (fun kj bj Tj O => c_X4_put_bad l G ca _ _ _ _ _ _ _ _ _ _ _ _ _ _ _ _ O _ y hy c2) (c_X5_put_bad l G ca h5 a5 M y 99 v.2.2.1 hy c1 hR.ty hR.np rfl) (by decide); rfl
  obtain ⟨k, hk⟩ : ∃ k, k = mcG y 8 0 := ⟨_, rfl⟩
  rw [← hk] at c1 c2 c3
  by_cases k0 : k = 0
  · refine op_ask hR ?_ (fun kj bj Tj O => c_X4_put_bad l G ca _ _ _ _ _ _ _ _ _ _ _ _ _ _ _ _ O _ y hy (c1.symm.trans k0)) (c_X5_put_none l G ca h5 a5 M y k v.2.2.1 hy hk.symm hR.ty hR.np k0) (by decide); rfl
  by_cases kf : v.2.2.1 + k ≤ 60
  · refine op_pad (g' := apL v.2.1 v.2.2.1 y k k) (np' := v.2.2.1 + k) (M' := (m_z M, m_past M, m_states M, m_slots M, m_isSaved M, apL (m_pad M) v.2.2.1 y k k, nI (v.2.2.1 + k), m_spot M, m_told M, m_toldMany M)) ?_ rfl (fun kj bj Tj O => c_X4_put_ok l G ca _ _ _ _ _ _ _ _ _ _ _ _ _ _ _ _ O _ y k hy hR.np c1.symm (by omega) c3 kf) (c_X5_put_ok l G ca h5 a5 M y k v.2.2.1 hy hk.symm hR.ty hR.np (by omega) c3 kf) (by decide)
    exact ⟨hR.1, hR.2.1, hR.2.2.1, congrArg (fun q => apL q v.2.2.1 y k k) hR.pad, rfl, kf, hR.2.2.2.2.2.2⟩
  · refine op_ask hR ?_ (fun kj bj Tj O => c_X4_put_full l G ca _ _ _ _ _ _ _ _ _ _ _ _ _ _ _ _ O _ y k hy hR.np c1.symm (by omega) c3 (by omega)) (c_X5_put_full l G ca h5 a5 M y k v.2.2.1 hy hk.symm hR.ty hR.np (by omega) c3 (by omega)) (by decide); rfl
theorem Rel.said (hR : Rel A v M) {sp : Int32} {td : Nat → Int32} {tm : Int32} : Rel A (v.1, v.2.1, v.2.2.1, v.2.2.2) (m_z M, m_past M, m_states M, m_slots M, m_isSaved M, m_pad M, m_typed M, sp, td, tm) := hR
theorem st_fault (hR : Rel A v M) : StepAt l G ca tL tM A h5 a5 v M yX4_fault wsX4_fault [] yX5_fault wsX5_fault [] := by
  refine op_pad hR.said ?_ (fun kj bj Tj O => c_X4_fault l G ca _ _ _ _ _ _ _ _ _ _ _ _ _ _ _ _ O _ hR.np) (c_X5_fault l G ca h5 a5 M v.2.2.1 hR.ty hR.np) (by decide)
  rw [hR.pad]
  rcases fault_eq hR.np (g := m_pad M) with ⟨c1, c2⟩ | ⟨c1, c2, -⟩
  · rw [if_pos c1]; exact c2
  · rw [if_neg (by rw [c1]; decide)]; exact c2
theorem st_read (hR : Rel A v M) : StepAt l G ca tL tM A h5 a5 v M yX4_read wsX4_read [] yX5_read wsX5_read [] := by
  obtain ⟨m, d, D, hm, hd, hD, h⟩ := hR.1
  have hle := rpG_le (m_pad M) v.2.2.1 v.2.2.1 0
  rcases fault_eq hR.np (g := m_pad M) with ⟨c1, c2⟩ | ⟨c1, c2, c3, -, c4⟩
  · have c5 : ¬ ffG v.2.1 v.2.2.1 v.2.2.1 0 = -6 := by rw [hR.pad, c2]; exact nI_n6 (Nat.le_trans (rpG_pos _ hR.np _ _) hR.np)
    refine op_pad hR.said ?_ (fun kj bj Tj O => c_X4_read_bad l G ca _ _ _ _ _ _ _ _ _ _ _ _ _ _ _ _ O _ hR.np c5) (c_X5_read_bad l G ca h5 a5 M v.2.2.1 hR.ty hR.np c1) (by decide); rfl
  have c5 : ffG v.2.1 v.2.2.1 v.2.2.1 0 = -6 := by rw [hR.pad]; exact c2
  have c6 : ¬ (rpG (m_pad M) v.2.2.1 v.2.2.1 0).1 = 0 := by rw [c1]; decide
  have key : ∀ n12 n72 : Nat, n12 = 12 → n72 = 72 → dyL v.2.1 v.2.2.1 = mdL (tdL (m_pad M) v.2.2.1 (m_told M) (rpG (m_pad M) v.2.2.1 v.2.2.1 0).2.1) (rpG (m_pad M) v.2.2.1 v.2.2.1 0).2.1 ∧ ∃ k m1 d1, k ≤ 60 ∧ dyL v.2.1 v.2.2.1 = nI k ∧ m1 < 4096 ∧ d1 < 4096 ∧ RSa m1 d1 (D + k) (rdS v.1 v.2.1 6 n12 v.2.2.1) (rzL (m_z M) (tdL (m_pad M) v.2.2.1 (m_told M) (rpG (m_pad M) v.2.2.1 v.2.2.1 0).2.1) n12 n72 (rpG (m_pad M) v.2.2.1 v.2.2.1 0).2.1) := by
    rintro n12 n72 rfl rfl
    obtain ⟨p1, p2, p3, p4, m1, d1, p5, p6, p7⟩ := h.hours hm hd (n6 := 6) rfl hR.np (g := m_pad M) (fun j hj => tdL_at (m_pad M) v.2.2.1 (m_told M) (rpG (m_pad M) v.2.2.1 v.2.2.1 0).2.1 j hj) (fun j hj => c4 j (Nat.zero_le _) hj) _ (Nat.le_refl _)
    rw [c3] at p4 p7
    have hc := dCt_le (tdL (m_pad M) v.2.2.1 (m_told M) (rpG (m_pad M) v.2.2.1 v.2.2.1 0).2.1) (rpG (m_pad M) v.2.2.1 v.2.2.1 0).2.1
    have hnp := hR.np
    rw [hR.pad, mdL_ct]
    exact ⟨p4, _, m1, d1, by omega, p4, p5, p6, p7⟩
  obtain ⟨n12, h12⟩ : ∃ n : Nat, n = 12 := ⟨_, rfl⟩
  obtain ⟨n72, h72⟩ : ∃ n : Nat, n = 72 := ⟨_, rfl⟩
  obtain ⟨k1, k, m1, d1, k2, k3, k4, k5, k6⟩ := key n12 n72 h12 h72
  have e9 : s_dy v.1 + dyL v.2.1 v.2.2.1 ≤ 9999 ↔ D + k ≤ 9999 := by
    rw [h.dy, k3, nI_add, show (9999 : Int32) = nI 9999 from rfl, nI_leI (by omega) (by decide)]
  have e8 : s_dy v.1 + dyL v.2.1 v.2.2.1 = m_z M 4 + mdL (tdL (m_pad M) v.2.2.1 (m_told M) (rpG (m_pad M) v.2.2.1 v.2.2.1 0).2.1) (rpG (m_pad M) v.2.2.1 v.2.2.1 0).2.1 := by rw [← k1, h.dy, h.z4]
  by_cases c7 : s_dy v.1 + dyL v.2.1 v.2.2.1 ≤ 9999
  · refine op_recP (n820 := 820) rfl hR ?_ ?_ ?_ ?_ ?_ ?_ ?_ ?_ ?_ (fun kj bj Tj O e1 e2 => c_X4_read_ok l G ca _ _ _ _ _ _ _ _ _ _ _ _ _ _ _ _ O _ 6 n12 hR.n6 e1 e2 hR.np c5 c7 rfl h12) (c_X5_read_ok l G ca h5 a5 M v.2.2.1 _ 820 n12 n72 hR.st hR.n6 rfl hR.ty hR.np c6 (e8 ▸ c7) h12 h72) (by decide)
    · exact k6.water
    · exact ⟨m1, d1, _, k4, k5, e9.mp c7, k6⟩
    · rfl
    · rfl
    · exact hR.pad
    · rfl
    · exact Nat.zero_le _
    · rfl
    · rfl
  · refine op_pad hR.said ?_ (fun kj bj Tj O => c_X4_read_many l G ca _ _ _ _ _ _ _ _ _ _ _ _ _ _ _ _ O _ hR.np c5 c7) (c_X5_read_many l G ca h5 a5 M v.2.2.1 hR.ty hR.np c6 (e8 ▸ c7)) (by decide); rfl
end OPS2
