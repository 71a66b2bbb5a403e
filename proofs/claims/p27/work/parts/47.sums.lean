/-! sums and masks by their members -/
section SUM
theorem snN_congr {f g : Nat → Nat} : ∀ n, (∀ k, k < n → f k = g k) → snN f n = snN g n := by
  intro n
  induction n with
  | zero => intro _; rfl
  | succ n ih => intro h; show snN f n + f n = snN g n + g n; rw [ih (fun k hk => h k (by omega)), h n (by omega)]
theorem snN_mono {f g : Nat → Nat} : ∀ n, (∀ k, k < n → f k ≤ g k) → snN f n ≤ snN g n := by
  intro n
  induction n with
  | zero => intro _; exact Nat.le_refl _
  | succ n ih => intro h; show snN f n + f n ≤ snN g n + g n; have := ih (fun k hk => h k (by omega)); have := h n (by omega); omega
theorem snN_le {f : Nat → Nat} {c : Nat} : ∀ n, (∀ k, k < n → f k ≤ c) → snN f n ≤ c * n := by
  intro n
  induction n with
  | zero => intro _; exact Nat.le_refl _
  | succ n ih => intro h; show snN f n + f n ≤ c * (n + 1); have := ih (fun k hk => h k (by omega)); have := h n (by omega); rw [Nat.mul_add]; omega
theorem snN_add {f g : Nat → Nat} : ∀ n, snN (fun k => f k + g k) n = snN f n + snN g n := by
  intro n
  induction n with
  | zero => rfl
  | succ n ih => show snN (fun k => f k + g k) n + (f n + g n) = (snN f n + f n) + (snN g n + g n); rw [ih]; omega
theorem snN_0 : ∀ n, snN (fun _ => 0) n = 0 := by
  intro n
  induction n with
  | zero => rfl
  | succ n ih => show snN (fun _ => 0) n + 0 = 0; rw [ih]
theorem snN_swap (f : Nat → Nat → Nat) (n : Nat) : ∀ m, snN (fun i => snN (fun j => f i j) n) m = snN (fun j => snN (fun i => f i j) m) n := by
  intro m
  induction m with
  | zero => show 0 = snN (fun j => 0) n; rw [snN_0]
  | succ m ih =>
    show snN (fun i => snN (fun j => f i j) n) m + snN (fun j => f m j) n = snN (fun j => snN (fun i => f i j) m + f m j) n
    rw [ih, snN_add]
theorem snN_cut {f : Nat → Nat} {n : Nat} : ∀ M, n ≤ M → snN (fun q => if q < n then f q else 0) M = snN f n := by
  intro M
  induction M with
  | zero => intro h; obtain rfl : n = 0 := by omega
            rfl
  | succ M ih =>
    intro h
    by_cases c : n = M + 1
    · subst c
      exact snN_congr _ (fun k hk => if_pos hk)
    · show snN (fun q => if q < n then f q else 0) M + (if M < n then f M else 0) = snN f n
      rw [ih (by omega), if_neg (by omega), Nat.add_zero]
theorem popN_le (m : Nat) : ∀ n, popN m n ≤ n := by
  intro n
  have := snN_le (f := bN m) (c := 1) n (fun k _ => bN_le m k)
  unfold popN; omega
theorem popN_s (m n : Nat) : popN m (n + 1) = popN m n + bN m n := rfl
def mkN (b : Nat → Bool) : Nat → Nat | 0 => 0 | i + 1 => if b i then setB (mkN b i) i else mkN b i
theorem mkN_lt (b : Nat → Bool) : ∀ n, mkN b n < 2 ^ n := by
  intro n
  induction n with
  | zero => show 0 < 1; omega
  | succ n ih =>
    have h2 : 2 ^ (n + 1) = 2 ^ n * 2 := Nat.pow_succ ..
    show (if b n then setB (mkN b n) n else mkN b n) < 2 ^ (n + 1)
    split
    · exact Nat.or_lt_two_pow (by omega) (Nat.pow_lt_pow_right (by decide) (by omega))
    · omega
theorem mkN_lt12 (b : Nat → Bool) {n : Nat} (hn : n ≤ 12) : mkN b n < 4096 := Nat.lt_of_lt_of_le (mkN_lt b n) (Nat.pow_le_pow_right (n := 2) (by decide) hn)
theorem mkN_bit (b : Nat → Bool) : ∀ n q, (mkN b n).testBit q = (decide (q < n) && b q) := by
  intro n
  induction n with
  | zero => intro q; show (0 : Nat).testBit q = _; simp
  | succ n ih =>
    intro q
    show (if b n then setB (mkN b n) n else mkN b n).testBit q = _
    cases hb : b n with
    | true =>
      rw [if_pos rfl, setB_bit, ih]
      by_cases e : q = n
      · subst e; rw [if_pos rfl, hb]; simp
      · rw [if_neg e]
        by_cases c : q < n
        · simp [c, show q < n + 1 by omega]
        · simp [c, show ¬ q < n + 1 by omega]
    | false =>
      rw [if_neg (by decide), ih]
      by_cases e : q = n
      · subst e; simp [hb]
      · by_cases c : q < n
        · simp [c, show q < n + 1 by omega]
        · simp [c, show ¬ q < n + 1 by omega]
theorem mkD_N {g : Nat → Int32} {b : Nat → Bool} : ∀ n, n ≤ 12 → (∀ i, i < n → (g i = 0 ↔ b i = false)) → mkD g n = nI (mkN b n) := by
  intro n
  induction n with
  | zero => intro _ _; rfl
  | succ n ih =>
    intro hn h
    have e := ih (by omega) (fun i hi => h i (by omega))
    have hk := h n (by omega)
    rw [mkD_s]
    show _ = nI (if b n then setB (mkN b n) n else mkN b n)
    by_cases c : g n = 0
    · rw [if_pos c, hk.mp c, if_neg (by decide), e]
    · have hb : b n = true := by cases q : b n with | true => rfl | false => exact absurd (hk.mpr q) c
      rw [if_neg c, hb, if_pos rfl, e]
      exact or1_nI _ (mkN_lt12 b (by omega)) n (by omega)
theorem pop_mk (b : Nat → Bool) {n : Nat} (hn : n ≤ 12) : popN (mkN b n) 12 = snN (fun i => if b i then 1 else 0) n := by
  unfold popN
  rw [← snN_cut (f := fun i => if b i then 1 else 0) 12 hn]
  refine snN_congr 12 (fun q hq => ?_)
  unfold bN
  rw [mkN_bit]
  by_cases c : q < n
  · simp [c]
  · simp [c]
theorem smD_N {f : Nat → Int32} {F : Nat → Nat} : ∀ n, (∀ i, i < n → f i = nI (F i)) → smD f n = nI (snN F n) := by
  intro n
  induction n with
  | zero => intro _; rfl
  | succ n ih =>
    intro h
    show smD f n + f n = nI (snN F n + F n)
    rw [ih (fun i hi => h i (by omega)), h n (by omega), nI_add]
theorem smD_upd {f : Nat → Int32} {p : Nat} {x : Int32} : ∀ n, p < n → smD (upd f p x) n + f p = smD f n + x := by
  intro n
  induction n with
  | zero => intro h; omega
  | succ n ih =>
    intro h
    show smD (upd f p x) n + upd f p x n + f p = smD f n + f n + x
    by_cases c : p = n
    · subst c
      rw [upd_at, smD_congr (f := upd f p x) (g := f) p (fun k hk => upd_ne (by omega)), Int32.add_assoc, Int32.add_comm x, ← Int32.add_assoc]
    · rw [upd_ne (Ne.symm c), Int32.add_assoc, Int32.add_comm (f n), ← Int32.add_assoc, ih (by omega), Int32.add_assoc, Int32.add_comm x, ← Int32.add_assoc]
theorem and_N (a b : Nat) : (nI a &&& nI b) = nI (a &&& b) := by
  apply Int32.toBitVec_inj.mp
  show BitVec.ofNat 32 a &&& BitVec.ofNat 32 b = BitVec.ofNat 32 (a &&& b)
  apply BitVec.eq_of_toNat_eq
  rw [BitVec.toNat_and, BitVec.toNat_ofNat, BitVec.toNat_ofNat, BitVec.toNat_ofNat, Nat.and_mod_two_pow]
theorem and_0 {a b : Nat} (h : ∀ q, a.testBit q = true → b.testBit q = true → False) : (a &&& b) = 0 := by
  apply Nat.eq_of_testBit_eq
  intro q
  rw [Nat.testBit_and, Nat.zero_testBit]
  cases ha : a.testBit q with
  | false => rfl
  | true => cases hb : b.testBit q with | false => rfl | true => exact (h q ha hb).elim
theorem mask_0 {h d y : Nat} (H : ∀ q, h.testBit q = true → d.testBit q = false → y.testBit q = false → False) : ((nI h &&& (nI d ^^^ (-1))) &&& (nI y ^^^ (-1))) = nI 0 := by
  apply Int32.toBitVec_inj.mp
  show (BitVec.ofNat 32 h &&& (BitVec.ofNat 32 d ^^^ BitVec.allOnes 32)) &&& (BitVec.ofNat 32 y ^^^ BitVec.allOnes 32) = BitVec.ofNat 32 0
  apply BitVec.eq_of_getLsbD_eq
  intro i hi
  simp only [BitVec.getLsbD_and, BitVec.getLsbD_xor, BitVec.getLsbD_ofNat, BitVec.getLsbD_allOnes, hi, decide_true, Bool.true_and, Nat.zero_testBit]
  cases h1 : h.testBit i with
  | false => rfl
  | true => cases h2 : d.testBit i with
    | true => rfl
    | false => cases h3 : y.testBit i with
      | true => rfl
      | false => exact (H i h1 h2 h3).elim
theorem pop_lt {m n : Nat} (h : m < 2 ^ n) (h12 : n ≤ 12) : popN m 12 = popN m n := by
  unfold popN
  rw [← snN_cut (f := bN m) 12 h12]
  refine snN_congr 12 (fun q hq => ?_)
  by_cases c : q < n
  · rw [if_pos c]
  · rw [if_neg c]
    exact bN_f (Nat.testBit_lt_two_pow (Nat.lt_of_lt_of_le h (Nat.pow_le_pow_right (by decide) (by omega))))
theorem mk_full {b : Nat → Bool} : mkN b 12 = 4095 ↔ ∀ q, q < 12 → b q = true := by
  constructor
  · intro h q hq
    have := mkN_bit b 12 q
    rw [h, show (4095 : Nat) = 2 ^ 12 - 1 from rfl, Nat.testBit_two_pow_sub_one] at this
    simpa [hq] using this.symm
  · intro h
    apply Nat.eq_of_testBit_eq
    intro q
    rw [mkN_bit, show (4095 : Nat) = 2 ^ 12 - 1 from rfl, Nat.testBit_two_pow_sub_one]
    by_cases c : q < 12
    · simp [c, h q c]
    · simp [c]
/-- the longest row of a mask is no longer than its members are many -/
theorem lw_N {m : Nat} (hm : m < 4096) : ∀ i, i ≤ 12 → ∃ r L, (lwL (nI m) i).1 = nI r ∧ (lwL (nI m) i).2.1 = nI L ∧ r ≤ popN m i ∧ L ≤ popN m i := by
  intro i
  induction i with
  | zero => intro _; exact ⟨0, 0, rfl, rfl, Nat.le_refl _, Nat.le_refl _⟩
  | succ i ih =>
    intro hi
    obtain ⟨r, L, e1, e2, h1, h2⟩ := ih (by omega)
    have hp := popN_le m i
    have hb := bt_N m hm i (by omega)
    have hl := bN_le m i
    rw [lwL_s, popN_s]
    by_cases c : bt1 (nI m) i = 0
    · rw [if_pos c, e2]
      have c0 : (0 : Int32) ≤ nI L := nI_le (a := 0) (by omega) (by omega)
      rw [if_pos c0]
      exact ⟨0, L, rfl, rfl, by omega, by omega⟩
    · have b1 : bN m i = 1 := by
        rw [hb] at c
        by_cases q : bN m i = 0
        · rw [q] at c; exact absurd rfl c
        · omega
      rw [if_neg c, e1, e2, nI_1, b1]
      by_cases c2 : nI (r + 1) ≤ nI L
      · rw [if_pos c2]; exact ⟨r + 1, L, rfl, rfl, by omega, by omega⟩
      · rw [if_neg c2]; exact ⟨r + 1, r + 1, rfl, rfl, by omega, by omega⟩
end SUM
