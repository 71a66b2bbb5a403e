/-! a contract over a part of the world, in any order; a contract with more room -/
theorem P_mem {G : va_G} {cl : List vw_C} {W : va_W} {H : Heap} : va_P G cl W H ↔ ∀ q ∈ W, va_at G cl q H := by
  refine ⟨fun h q hq => ?_, fun h k q hk => h q (List.mem_of_getElem? hk)⟩
  obtain ⟨k, hk⟩ := List.getElem?_of_mem hq
  exact h k q hk
theorem P_perm {G : va_G} {cl : List vw_C} {W V : va_W} {H : Heap} (hp : W.Perm V) (h : va_P G cl W H) : va_P G cl V H := P_mem.mpr (fun q hq => P_mem.mp h q (hp.mem_iff.mpr hq))
theorem A_mem {W : va_W} {sz q : Nat} : va_A W sz q ↔ (∃ e, (q, e) ∈ W) ∨ sz ≤ q := by
  refine or_congr ⟨fun ⟨k, e, h⟩ => ⟨e, List.mem_of_getElem? h⟩, fun ⟨e, h⟩ => ?_⟩ Iff.rfl
  obtain ⟨k, hk⟩ := List.getElem?_of_mem h
  exact ⟨k, e, hk⟩
theorem D_iff {A : Nat → Prop} {W : va_W} : va_D A W ↔ (W.map Prod.fst).Nodup ∧ ∀ q ∈ W, A q.1 := by
  constructor
  · intro h
    refine ⟨?_, fun q hq => ?_⟩
    · refine List.pairwise_iff_getElem.mpr (fun i j hi hj hij he => ?_)
      have hi' : i < W.length := by rwa [List.length_map] at hi
      have hj' : j < W.length := by rwa [List.length_map] at hj
      rw [List.getElem_map, List.getElem_map] at he
      have := h.1 i j _ _ (List.getElem?_eq_getElem hi') (List.getElem?_eq_getElem hj') he
      omega
    · obtain ⟨k, hk⟩ := List.getElem?_of_mem hq
      exact h.2 k q hk
  · rintro ⟨h1, h2⟩
    refine ⟨fun i j p q hi hj e => ?_, fun k q hk => h2 q (List.mem_of_getElem? hk)⟩
    have h1 := List.pairwise_iff_getElem.mp h1
    obtain ⟨li, ei⟩ := List.getElem?_eq_some_iff.mp hi
    obtain ⟨lj, ej⟩ := List.getElem?_eq_some_iff.mp hj
    rcases Nat.lt_trichotomy i j with h | h | h
    · exact absurd (by rw [List.getElem_map, List.getElem_map, ei, ej, e]) (h1 i j (by rwa [List.length_map]) (by rwa [List.length_map]) h)
    · exact h
    · exact absurd (by rw [List.getElem_map, List.getElem_map, ei, ej, e]) (h1 j i (by rwa [List.length_map]) (by rwa [List.length_map]) h)
theorem D_perm {A : Nat → Prop} {W V : va_W} (hp : W.Perm V) (h : va_D A W) : va_D A V := by
  obtain ⟨h1, h2⟩ := D_iff.mp h
  exact D_iff.mpr ⟨(hp.map Prod.fst).nodup_iff.mp h1, fun q hq => h2 q (hp.mem_iff.mpr hq)⟩
theorem CtS.frame {l : Launch} {y : MethodName} {ws : List Cond} {rm : Room} {as : List Value} {G : va_G} {ca : Nat → ClassId} {tL tM : Nat} {Wc Wc' R W W' : va_W} {r : Int32} (h : CtS l y ws rm as G ca tL tM Wc Wc' r) (hp : W.Perm (Wc ++ R)) (hp' : W'.Perm (Wc' ++ R)) : CtS l y ws rm as G ca tL tM W W' r := by
  intro sz p e ha hc hk s m args below hf happ hP hK
  obtain ⟨h1, h2, h3, h4, h5, h6⟩ := hP
  have hPw := P_perm hp h3
  have hDw := D_perm hp h5
  have hsub : ∀ q, va_A Wc sz q → va_A W sz q := by
    intro q hq
    rcases A_mem.mp hq with ⟨e, he⟩ | hq
    · exact A_mem.mpr (Or.inl ⟨e, hp.mem_iff.mpr (List.mem_append_left _ he)⟩)
    · exact Or.inr hq
  have hX : SY tL tM (va_A Wc sz) s := ⟨h6.1.narrow hsub, h6.2.1.narrow hsub, h6.2.2.1.narrow hsub, h6.2.2.2.narrow hsub⟩
  obtain ⟨n, o, g1, g2, g3, g4⟩ := h sz p e ha hc hk s m args below hf happ ⟨h1, h2, P_left hPw, h4, D_left hDw, hX⟩ hK
  refine ⟨n, o, g1, g2, g3, ?_⟩
  obtain ⟨⟨⟨r', u, e1, e2, e3⟩, e4⟩, L, e5, e6⟩ := g4
  refine ⟨⟨⟨r', u, e1, e2, ?_⟩, ⟨e4.1, fun q hq hn => e4.2 q hq (fun z => hn (hsub q z))⟩⟩, L, e5, fun q hq => hsub _ (e6 q hq)⟩
  refine P_perm hp'.symm (va_P.app e3 ?_)
  intro k q hq
  have hl := (P_right hPw k q hq).lt
  refine (P_right hPw k q hq).kept (e4.2 q.1 hl (fun z => ?_))
  rcases z with ⟨j, e, hj⟩ | z
  · exact D_apart hDw hj hq rfl
  · omega
theorem CtS.room {l : Launch} {y : MethodName} {ws : List Cond} {rm rm' : Room} {as : List Value} {G : va_G} {ca : Nat → ClassId} {tL tM : Nat} {W W' : va_W} {r : Int32} (h : CtS l y ws rm as G ca tL tM W W' r) (h1 : rm.frames ≤ rm'.frames) (h2 : rm.cells ≤ rm'.cells) (h3 : rm.slots ≤ rm'.slots) (h4 : rm.locals ≤ rm'.locals) : CtS l y ws rm' as G ca tL tM W W' r := by
  intro sz p e ha hc hk s m args below hf happ hP hK
  refine h sz p e ha hc hk s m args below hf ?_ hP hK
  obtain ⟨a1, a2, a3, a4, a5, a6, a7, a8⟩ := (Spec.appliesLoose_iff hf).mp happ
  refine (Spec.appliesLoose_iff hf).mpr ⟨a1, a2, a3, a4, a5, a6, ?_, a8⟩
  simp only [State.hasRoom, headSpec, Bool.and_eq_true] at a7 ⊢
  obtain ⟨⟨⟨⟨b1, b2⟩, b3⟩, b4⟩, b5⟩ := a7
  have b1 := of_decide_eq_true b1
  have b2 := of_decide_eq_true b2
  have b3 := of_decide_eq_true b3
  have b4 := of_decide_eq_true b4
  obtain ⟨c1, c2, c3, c4, c5⟩ := b2
  exact ⟨⟨⟨⟨decide_eq_true (by omega), decide_eq_true ⟨by omega, by omega, by omega, by omega, c5⟩⟩, decide_eq_true (by omega)⟩, decide_eq_true (by omega)⟩, b5⟩
