/-! the whole world of the class: its canonical order; a recording step over it -/
section SYS
variable {l : Launch} {G : va_G} {ca : Nat → ClassId} {tL tM : Nat}
def sts (ca : Nat → ClassId) (k : Nat → Nat) (b : Nat → Nat → Nat) (T : Nat → SS) : Nat → va_W | 0 => [] | i + 1 => sts ca k b T i ++ stT ca (k i) (b i) (T i)
theorem sts_far {k : Nat → Nat} {b : Nat → Nat → Nat} {T : Nat → SS} {j : Nat} {X : SS} : ∀ n, n ≤ j → sts ca k b (updT T j X) n = sts ca k b T n := by
  intro n
  induction n with
  | zero => intro _; rfl
  | succ n ih => intro h; show sts ca k b (updT T j X) n ++ stT ca (k n) (b n) (updT T j X n) = _; rw [ih (by omega), updT_ne (by omega)]; rfl
theorem sts_mem {k : Nat → Nat} {b : Nat → Nat → Nat} {T : Nat → SS} : ∀ n i, i < n → ∃ y, (k i, (.inr (3, y) : va_E)) ∈ sts ca k b T n := by
  intro n
  induction n with
  | zero => intro i h; omega
  | succ n ih =>
    intro i h
    by_cases e : i = n
    · subst e; exact ⟨_, List.mem_append_right _ (List.mem_cons_self ..)⟩
    · obtain ⟨y, hy⟩ := ih i (by omega)
      exact ⟨y, List.mem_append_left _ hy⟩
theorem perm3 {a b c : va_W} : (a ++ b ++ c).Perm (b ++ (a ++ c)) := by
  refine (List.Perm.append_right c List.perm_append_comm).trans ?_
  rw [List.append_assoc]
theorem perm4 {a b c : va_W} : (a ++ (b ++ c)).Perm (b ++ (a ++ c)) := by
  rw [← List.append_assoc]; exact perm3
theorem sts_pick (ca : Nat → ClassId) (k : Nat → Nat) (b : Nat → Nat → Nat) (T : Nat → SS) : ∀ n j, j < n → ∃ O : va_W, (∀ X, (sts ca k b (updT T j X) n).Perm (stT ca (k j) (b j) X ++ O)) ∧ ∀ i, i < n → i ≠ j → ∃ y, (k i, (.inr (3, y) : va_E)) ∈ O := by
  intro n
  induction n with
  | zero => intro j h; omega
  | succ n ih =>
    intro j h
    by_cases e : j = n
    · subst e
      refine ⟨sts ca k b T j, fun X => ?_, fun i hi hne => sts_mem j i (by omega)⟩
      show (sts ca k b (updT T j X) j ++ stT ca (k j) (b j) (updT T j X j)).Perm _
      rw [sts_far j (Nat.le_refl _), updT_at]
      exact List.perm_append_comm
    · obtain ⟨O, h1, h2⟩ := ih j (by omega)
      refine ⟨O ++ stT ca (k n) (b n) (T n), fun X => ?_, fun i hi hne => ?_⟩
      · show (sts ca k b (updT T j X) n ++ stT ca (k n) (b n) (updT T j X n)).Perm _
        rw [updT_ne (fun q => e q.symm), ← List.append_assoc]
        exact (h1 X).append_right _
      · by_cases c : i = n
        · subst c; exact ⟨_, List.mem_append_right _ (List.mem_cons_self ..)⟩
        · obtain ⟨y, hy⟩ := h2 i (by omega) hne
          exact ⟨y, List.mem_append_left _ hy⟩
theorem updT_self (T : Nat → SS) (j : Nat) : updT T j (T j) = T := by funext i; unfold updT; split <;> simp_all
def XW (ca : Nat → ClassId) (xo h hp hh sl ap ka : Nat) (a k : Nat → Nat) (b : Nat → Nat → Nat) (SL : va_W) (g : Nat → Int32) (np n : Nat) (rf : Nat → Option Nat) (S : SS) (T : Nat → SS) : va_W :=
  xoT xo h hp hh sl ++ (paT ca hp ap (g, nI np) ++ (hiT ca hh ka (nI n) rf ++ (stT ca h a S ++ (sts ca k b T 6 ++ SL))))
theorem XW_pick {xo h hp hh sl ap ka : Nat} {a k : Nat → Nat} {b : Nat → Nat → Nat} {SL O : va_W} {g : Nat → Int32} {np n : Nat} {rf : Nat → Option Nat} {S X : SS} {T : Nat → SS} {j : Nat} (hO : (sts ca k b (updT T j X) 6).Perm (stT ca (k j) (b j) X ++ O)) :
    (XW ca xo h hp hh sl ap ka a k b SL g np n rf S (updT T j X)).Perm ((xoT xo h hp hh sl ++ (paT ca hp ap (g, nI np) ++ (hiT ca hh ka (nI n) rf ++ (stT ca (k j) (b j) X ++ (stT ca h a S ++ (O ++ SL)))))) ++ []) := by
  rw [List.append_nil]
  refine List.Perm.append_left _ (List.Perm.append_left _ (List.Perm.append_left _ ?_))
  refine ((hO.append_right SL).append_left _).trans ?_
  rw [List.append_assoc (stT ca (k j) (b j) X) O SL]
  exact perm4
theorem at_mem {W : va_W} {q : Nat × va_E} (h : q ∈ W) : ∃ x : Nat, W[x]? = some q := List.getElem?_of_mem h
theorem rec_step {y : MethodName} {ws : List Cond} {rm : Room} {as : List Value} {r : Int32} {xo h hp hh sl ap ka : Nat} {a k : Nat → Nat} {b : Nat → Nat → Nat} {SL : va_W} {g g' : Nat → Int32} {np np' n : Nat} {rf : Nat → Option Nat} {S S' : SS} {T : Nat → SS} {π : Nat → Nat} {hs : Nat → SS} (hH : RHist n rf k π T hs)
    (hc : ∀ (kj : Nat) (bj : Nat → Nat) (Tj : SS) (O : va_W), recT n rf = some kj → (∀ i, i < 6 → ∃ (v x : Nat) (y : List Value), rf i = some v ∧ (hiT ca hh ka (nI n) rf ++ (stT ca kj bj Tj ++ (stT ca h a S ++ O)))[x]? = some (v, .inr (3, y))) →
      CtS l y ws rm as G ca tL tM (xoT xo h hp hh sl ++ (paT ca hp ap (g, nI np) ++ (hiT ca hh ka (nI n) rf ++ (stT ca kj bj Tj ++ (stT ca h a S ++ (O ++ SL)))))) (xoT xo h hp hh sl ++ (paT ca hp ap (g', nI np') ++ (hiT ca hh ka (nI (recN n)) (recR n rf) ++ (stT ca kj bj S ++ (stT ca h a S' ++ (O ++ SL)))))) r) :
    ∃ j0 π', RHist (recN n) (recR n rf) k π' (updT T j0 S) (consS S hs) ∧ CtS l y ws rm as G ca tL tM (XW ca xo h hp hh sl ap ka a k b SL g np n rf S T) (XW ca xo h hp hh sl ap ka a k b SL g' np' (recN n) (recR n rf) S' (updT T j0 S)) r := by
  obtain ⟨j0, π', hj, hr, hR⟩ := hH.rec S
  obtain ⟨O, h1, h2⟩ := sts_pick ca k b T 6 j0 hj
  refine ⟨j0, π', hR, ?_⟩
  have hob : ∀ i, i < 6 → ∃ (v x : Nat) (y : List Value), rf i = some v ∧ (hiT ca hh ka (nI n) rf ++ (stT ca (k j0) (b j0) (T j0) ++ (stT ca h a S ++ O)))[x]? = some (v, .inr (3, y)) := by
    intro i hi
    have e := hH.2.2.2.1 i hi
    by_cases c : π i = j0
    · obtain ⟨x, hx⟩ := at_mem (W := hiT ca hh ka (nI n) rf ++ (stT ca (k j0) (b j0) (T j0) ++ (stT ca h a S ++ O))) (List.mem_append_right _ (List.mem_append_left _ (List.mem_cons_self ..)))
      exact ⟨k j0, x, _, by rw [e, c], hx⟩
    · obtain ⟨y, hy⟩ := h2 (π i) (hH.2.1 i hi) c
      obtain ⟨x, hx⟩ := at_mem (W := hiT ca hh ka (nI n) rf ++ (stT ca (k j0) (b j0) (T j0) ++ (stT ca h a S ++ O))) (List.mem_append_right _ (List.mem_append_right _ (List.mem_append_right _ hy)))
      exact ⟨k (π i), x, y, e, hx⟩
  have hp0 := XW_pick (xo := xo) (h := h) (hp := hp) (hh := hh) (sl := sl) (ap := ap) (ka := ka) (a := a) (SL := SL) (g := g) (np := np) (n := n) (rf := rf) (S := S) (h1 (T j0))
  rw [updT_self] at hp0
  exact (hc (k j0) (b j0) (T j0) O hr hob).frame hp0 (XW_pick (h1 S))
/-- a method that changes neither history nor slots -/
theorem ask_step {y : MethodName} {ws : List Cond} {rm : Room} {as : List Value} {r : Int32} {xo h hp hh sl ap ka : Nat} {a k : Nat → Nat} {b : Nat → Nat → Nat} {SL : va_W} {g g' : Nat → Int32} {np np' n : Nat} {rf : Nat → Option Nat} {S : SS} {T : Nat → SS}
    (hc : ∀ (kj : Nat) (bj : Nat → Nat) (Tj : SS) (O : va_W), CtS l y ws rm as G ca tL tM (xoT xo h hp hh sl ++ (paT ca hp ap (g, nI np) ++ (hiT ca hh ka (nI n) rf ++ (stT ca kj bj Tj ++ (stT ca h a S ++ (O ++ SL)))))) (xoT xo h hp hh sl ++ (paT ca hp ap (g', nI np') ++ (hiT ca hh ka (nI n) rf ++ (stT ca kj bj Tj ++ (stT ca h a S ++ (O ++ SL)))))) r) :
    CtS l y ws rm as G ca tL tM (XW ca xo h hp hh sl ap ka a k b SL g np n rf S T) (XW ca xo h hp hh sl ap ka a k b SL g' np' n rf S T) r := by
  obtain ⟨O, h1, -⟩ := sts_pick ca k b T 6 0 (by omega)
  have hp0 := XW_pick (xo := xo) (h := h) (hp := hp) (hh := hh) (sl := sl) (ap := ap) (ka := ka) (a := a) (SL := SL) (g := g) (np := np) (n := n) (rf := rf) (S := S) (h1 (T 0))
  have hp1 := XW_pick (xo := xo) (h := h) (hp := hp) (hh := hh) (sl := sl) (ap := ap) (ka := ka) (a := a) (SL := SL) (g := g') (np := np') (n := n) (rf := rf) (S := S) (h1 (T 0))
  rw [updT_self] at hp0 hp1
  exact (hc (k 0) (b 0) (T 0) O).frame hp0 hp1
end SYS
