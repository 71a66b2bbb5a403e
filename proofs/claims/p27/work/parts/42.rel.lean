/-! the class's whole world; what holds of it; its operations over it -/
section REL
variable {l : Launch} {G : va_G} {ca : Nat → ClassId} {tL tM : Nat}
abbrev VV : Type := SS × (Nat → Int32) × Nat × Nat × (Nat → Option Nat) × (Nat → SS) × (Nat → Int32) × (Nat → SS)
/-- the class's addresses: xo h hp hh sl ap ka ka2 ua; a k k2; b b2; srf -/
abbrev AD : Type := (Nat × Nat × Nat × Nat × Nat × Nat × Nat × Nat × Nat) × ((Nat → Nat) × (Nat → Nat) × (Nat → Nat)) × ((Nat → Nat → Nat) × (Nat → Nat → Nat)) × (Nat → Option Nat)
def SLW (ca : Nat → ClassId) (A : AD) (us : Nat → Int32) (T2 : Nat → SS) : va_W := slT ca A.1.2.2.2.2.1 A.1.2.2.2.2.2.2.2.1 A.1.2.2.2.2.2.2.2.2 A.2.2.2 us ++ sts ca A.2.1.2.2 A.2.2.1.2 T2 2
def XV (ca : Nat → ClassId) (A : AD) (v : VV) : va_W := XW ca A.1.1 A.1.2.1 A.1.2.2.1 A.1.2.2.2.1 A.1.2.2.2.2.1 A.1.2.2.2.2.2.1 A.1.2.2.2.2.2.2.1 A.2.1.1 A.2.1.2.1 A.2.2.1.1 (SLW ca A v.2.2.2.2.2.2.1 v.2.2.2.2.2.2.2) v.2.1 v.2.2.1 v.2.2.2.1 v.2.2.2.2.1 v.1 v.2.2.2.2.2.1
def rm8 : Room := { frames := 6, cells := 0, slots := 0, locals := 140 }
/-- the slots' references are the addresses -/
def SlOk (A : AD) : Prop := ∀ k, k < 2 → A.2.2.2 k = some (A.2.1.2.2 k)
/-- the class's world: nothing on the pad; n states in history, the latest first in hs; what the slots hold -/
def Ab (A : AD) (v : VV) (n : Nat) (hs : Nat → SS) (u : Nat → Option SS) : Prop := v.2.2.1 = 0 ∧ v.2.2.2.1 = n ∧ (∃ π, RHist n v.2.2.2.2.1 A.2.1.2.1 π v.2.2.2.2.2.1 hs) ∧ RSlot v.2.2.2.2.2.2.1 v.2.2.2.2.2.2.2 u ∧ SlOk A
/-- an operation of the class over its whole world -/
def KO (l : Launch) (G : va_G) (ca : Nat → ClassId) (tL tM : Nat) (A : AD) (v v' : VV) (y : MethodName) (ws : List Cond) (as : List Value) (r : Int32) : Prop := CtS l y ws rm8 (.ref A.1.1 :: as) G ca tL tM (XV ca A v) (XV ca A v') r
variable {A : AD} {v : VV} {y4 : MethodName} {ws4 : List Cond} {as4 : List Value} {n : Nat} {hs : Nat → SS} {u : Nat → Option SS}
theorem sts_F {k : Nat → Nat} {bb : Nat → Nat → Nat} {T T' : Nat → SS} : ∀ n, (sts ca k bb T' n).map Prod.fst = (sts ca k bb T n).map Prod.fst := by
  intro n
  induction n with
  | zero => rfl
  | succ n ih => exact app_F ih stF
theorem XV_F {v' : VV} : (XV ca A v').map Prod.fst = (XV ca A v).map Prod.fst := app_F rfl (app_F paF (app_F hiF (app_F stF (app_F (sts_F 6) (app_F slF (sts_F 2))))))
theorem Ab.n6 (h : Ab A v n hs u) : n ≤ 6 := h.2.2.1.elim (fun _ h => h.1)
theorem Ab.n7 (h : Ab A v n hs u) : v.2.2.2.1 ≤ 6 := h.2.1 ▸ h.n6
theorem k_askS {r4 : Int32} {rm4 : Room} (h4 : ∀ (kj : Nat) (bj : Nat → Nat) (Tj : SS) (O : va_W), CtS l y4 ws4 rm4 (.ref A.1.1 :: as4) G ca tL tM (xoT A.1.1 A.1.2.1 A.1.2.2.1 A.1.2.2.2.1 A.1.2.2.2.2.1 ++ (paT ca A.1.2.2.1 A.1.2.2.2.2.2.1 (v.2.1, nI v.2.2.1) ++ (hiT ca A.1.2.2.2.1 A.1.2.2.2.2.2.2.1 (nI v.2.2.2.1) v.2.2.2.2.1 ++ (stT ca kj bj Tj ++ (stT ca A.1.2.1 A.2.1.1 v.1 ++ (O ++ SLW ca A v.2.2.2.2.2.2.1 v.2.2.2.2.2.2.2)))))) (xoT A.1.1 A.1.2.1 A.1.2.2.1 A.1.2.2.2.1 A.1.2.2.2.2.1 ++ (paT ca A.1.2.2.1 A.1.2.2.2.2.2.1 (v.2.1, nI v.2.2.1) ++ (hiT ca A.1.2.2.2.1 A.1.2.2.2.2.2.2.1 (nI v.2.2.2.1) v.2.2.2.2.1 ++ (stT ca kj bj Tj ++ (stT ca A.1.2.1 A.2.1.1 v.1 ++ (O ++ SLW ca A v.2.2.2.2.2.2.1 v.2.2.2.2.2.2.2)))))) r4) (hroom : rm4.frames ≤ 6 ∧ rm4.cells ≤ 0 ∧ rm4.slots ≤ 0 ∧ rm4.locals ≤ 140) : KO l G ca tL tM A v v y4 ws4 as4 r4 := by
  obtain ⟨q1, q2, q3, q4⟩ := hroom
  exact (ask_step (fun kj bj Tj O => h4 kj bj Tj O)).room q1 q2 q3 q4
theorem k_ask {r4 : Int32} {rm4 : Room} (h4 : ∀ (kj : Nat) (bj : Nat → Nat) (Tj : SS) (O : va_W), CtI l y4 ws4 rm4 (.ref A.1.1 :: as4) G ca (xoT A.1.1 A.1.2.1 A.1.2.2.1 A.1.2.2.2.1 A.1.2.2.2.2.1 ++ (paT ca A.1.2.2.1 A.1.2.2.2.2.2.1 (v.2.1, nI v.2.2.1) ++ (hiT ca A.1.2.2.2.1 A.1.2.2.2.2.2.2.1 (nI v.2.2.2.1) v.2.2.2.2.1 ++ (stT ca kj bj Tj ++ (stT ca A.1.2.1 A.2.1.1 v.1 ++ (O ++ SLW ca A v.2.2.2.2.2.2.1 v.2.2.2.2.2.2.2)))))) (xoT A.1.1 A.1.2.1 A.1.2.2.1 A.1.2.2.2.1 A.1.2.2.2.2.1 ++ (paT ca A.1.2.2.1 A.1.2.2.2.2.2.1 (v.2.1, nI v.2.2.1) ++ (hiT ca A.1.2.2.2.1 A.1.2.2.2.2.2.2.1 (nI v.2.2.2.1) v.2.2.2.2.1 ++ (stT ca kj bj Tj ++ (stT ca A.1.2.1 A.2.1.1 v.1 ++ (O ++ SLW ca A v.2.2.2.2.2.2.1 v.2.2.2.2.2.2.2)))))) r4) (hroom : rm4.frames ≤ 6 ∧ rm4.cells ≤ 0 ∧ rm4.slots ≤ 0 ∧ rm4.locals ≤ 140) : KO l G ca tL tM A v v y4 ws4 as4 r4 := k_askS (fun kj bj Tj O => (h4 kj bj Tj O).toS tL tM) hroom
theorem k_rec {r4 : Int32} {rm4 : Room} {S' : SS} (hR : Ab A v n hs u)
    (h4 : ∀ (kj : Nat) (bj : Nat → Nat) (Tj : SS) (O : va_W), recT v.2.2.2.1 v.2.2.2.2.1 = some kj → (∀ i, i < 6 → ∃ (v1 x : Nat) (y : List Value), v.2.2.2.2.1 i = some v1 ∧ (hiT ca A.1.2.2.2.1 A.1.2.2.2.2.2.2.1 (nI v.2.2.2.1) v.2.2.2.2.1 ++ (stT ca kj bj Tj ++ (stT ca A.1.2.1 A.2.1.1 v.1 ++ O)))[x]? = some (v1, .inr (3, y))) →
      CtS l y4 ws4 rm4 (.ref A.1.1 :: as4) G ca tL tM (xoT A.1.1 A.1.2.1 A.1.2.2.1 A.1.2.2.2.1 A.1.2.2.2.2.1 ++ (paT ca A.1.2.2.1 A.1.2.2.2.2.2.1 (v.2.1, nI v.2.2.1) ++ (hiT ca A.1.2.2.2.1 A.1.2.2.2.2.2.2.1 (nI v.2.2.2.1) v.2.2.2.2.1 ++ (stT ca kj bj Tj ++ (stT ca A.1.2.1 A.2.1.1 v.1 ++ (O ++ SLW ca A v.2.2.2.2.2.2.1 v.2.2.2.2.2.2.2)))))) (xoT A.1.1 A.1.2.1 A.1.2.2.1 A.1.2.2.2.1 A.1.2.2.2.2.1 ++ (paT ca A.1.2.2.1 A.1.2.2.2.2.2.1 (v.2.1, nI v.2.2.1) ++ (hiT ca A.1.2.2.2.1 A.1.2.2.2.2.2.2.1 (nI (recN v.2.2.2.1)) (recR v.2.2.2.1 v.2.2.2.2.1) ++ (stT ca kj bj v.1 ++ (stT ca A.1.2.1 A.2.1.1 S' ++ (O ++ SLW ca A v.2.2.2.2.2.2.1 v.2.2.2.2.2.2.2)))))) r4)
    (hroom : rm4.frames ≤ 6 ∧ rm4.cells ≤ 0 ∧ rm4.slots ≤ 0 ∧ rm4.locals ≤ 140) : ∃ v' : VV, v'.1 = S' ∧ Ab A v' (recN n) (consS v.1 hs) u ∧ KO l G ca tL tM A v v' y4 ws4 as4 r4 := by
  obtain ⟨q1, q2, q3, q4⟩ := hroom
  obtain ⟨r1, rfl, ⟨π, r2⟩, r3, r4'⟩ := hR
  obtain ⟨j0, π', g1, g2⟩ := rec_step (SL := SLW ca A v.2.2.2.2.2.2.1 v.2.2.2.2.2.2.2) r2 h4
  exact ⟨(S', v.2.1, v.2.2.1, recN v.2.2.2.1, recR v.2.2.2.1 v.2.2.2.2.1, updT v.2.2.2.2.2.1 j0 v.1, v.2.2.2.2.2.2.1, v.2.2.2.2.2.2.2), rfl, ⟨r1, rfl, ⟨π', g1⟩, r3, r4'⟩, g2.room q1 q2 q3 q4⟩
theorem in6 (x : Int32) (N : Nat) (hN : N < 2 ^ 31) : (x < 0 ∨ nI N ≤ x) ∨ ∃ p, p < N ∧ x = nI p := by
  by_cases c : x < 0
  · exact Or.inl (Or.inl c)
  · by_cases c2 : nI N ≤ x
    · exact Or.inl (Or.inr c2)
    · obtain ⟨j, hj, rfl⟩ := nI_of c
      refine Or.inr ⟨j, ?_, rfl⟩
      exact Nat.lt_of_not_le (fun q => c2 ((nI_leI hN hj).mpr q))
end REL
