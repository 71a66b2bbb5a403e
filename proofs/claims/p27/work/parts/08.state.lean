/-! THE WORLDS: a street (SS), a pad (PP): what they hold as a tuple, and their cells -/
abbrev SS : Type := (Nat → Int32) × (Nat → Int32) × (Nat → Int32) × (Nat → Int32) × (Nat → Int32) × (Nat → Int32) × (Nat → Int32) × (Nat → Int32) × (Nat → Int32) × Int32 × Int32 × Int32 × Int32 × Int32 × Int32
abbrev s_se (S : SS) : Nat → Int32 := S.1
abbrev s_br (S : SS) : Nat → Int32 := S.2.1
abbrev s_wa (S : SS) : Nat → Int32 := S.2.2.1
abbrev s_cr (S : SS) : Nat → Int32 := S.2.2.2.1
abbrev s_sh (S : SS) : Nat → Int32 := S.2.2.2.2.1
abbrev s_ow (S : SS) : Nat → Int32 := S.2.2.2.2.2.1
abbrev s_pa (S : SS) : Nat → Int32 := S.2.2.2.2.2.2.1
abbrev s_cb (S : SS) : Nat → Int32 := S.2.2.2.2.2.2.2.1
abbrev s_pd (S : SS) : Nat → Int32 := S.2.2.2.2.2.2.2.2.1
abbrev s_fz (S : SS) : Int32 := S.2.2.2.2.2.2.2.2.2.1
abbrev s_dk (S : SS) : Int32 := S.2.2.2.2.2.2.2.2.2.2.1
abbrev s_dy (S : SS) : Int32 := S.2.2.2.2.2.2.2.2.2.2.2.1
abbrev s_fe (S : SS) : Int32 := S.2.2.2.2.2.2.2.2.2.2.2.2.1
abbrev s_dr (S : SS) : Int32 := S.2.2.2.2.2.2.2.2.2.2.2.2.2.1
abbrev s_dn (S : SS) : Int32 := S.2.2.2.2.2.2.2.2.2.2.2.2.2.2
abbrev stT (ca : Nat → ClassId) (h : Nat) (a : Nat → Nat) (S : SS) : va_W := [(h, .inr (3, [.ref (a 0), .ref (a 1), .ref (a 2), .ref (a 3), .ref (a 4), .ref (a 5), .ref (a 6), .ref (a 7), .ref (a 8), .int (s_fz S), .int (s_dk S), .int (s_dy S), .int (s_fe S), .int (s_dr S), .int (s_dn S)])), (a 0, .inl (ca 0, 4, .inl (s_se S))), (a 1, .inl (ca 0, 12, .inl (s_br S))), (a 2, .inl (ca 0, 12, .inl (s_wa S))), (a 3, .inl (ca 0, 12, .inl (s_cr S))), (a 4, .inl (ca 0, 6, .inl (s_sh S))), (a 5, .inl (ca 0, 6, .inl (s_ow S))), (a 6, .inl (ca 0, 6, .inl (s_pa S))), (a 7, .inl (ca 0, 6, .inl (s_cb S))), (a 8, .inl (ca 0, 72, .inl (s_pd S)))]
abbrev PP : Type := (Nat → Int32) × Int32
abbrev p_sg (P : PP) : Nat → Int32 := P.1
abbrev p_len (P : PP) : Int32 := P.2
abbrev paT (ca : Nat → ClassId) (h a : Nat) (P : PP) : va_W := [(h, .inr (1, [.ref a, .int (p_len P)])), (a, .inl (ca 1, 60, .inl (p_sg P)))]
abbrev xoT (h hs hp hh hl : Nat) : va_W := [(h, .inr (4, [.ref hs, .ref hp, .ref hh, .ref hl]))]
theorem P_nil {G : va_G} {cl : List vw_C} {H : Heap} : va_P G cl [] H := fun k q h => by simp at h
theorem D_nil {A : Nat → Prop} : va_D A [] := ⟨fun i j p q h => by simp at h, fun k q h => by simp at h⟩
theorem CtI.use {l : Launch} {y : MethodName} {ws : List Cond} {rm : Room} {as : List Value} {G : va_G} {ca : Nat → ClassId} {Wd Wd1 : va_W} {r : Int32} (h : CtI l y ws rm as G ca Wd Wd1 r) (sz : Nat) : Met l y ws rm (pcW G ca Wd as sz) (va_Qi (fun (r1 : Int32) (_ : Unit) => r1 = r) (fun _ t => va_P G vwCl Wd1 t.heap) (va_A Wd sz)) 0 0 (va_A Wd sz) := h sz
theorem CtV.use {l : Launch} {y : MethodName} {ws : List Cond} {rm : Room} {as : List Value} {G : va_G} {ca : Nat → ClassId} {Wd Wd1 : va_W} (h : CtV l y ws rm as G ca Wd Wd1) (sz : Nat) : Met l y ws rm (pcW G ca Wd as sz) (va_Qv (fun (_ : Unit) => True) (fun _ t => va_P G vwCl Wd1 t.heap) (va_A Wd sz)) 0 0 (va_A Wd sz) := h sz
theorem D_of {A : Nat → Prop} {ws ws1 : va_W} (hD : va_D A ws) (hf : ws1.map Prod.fst = ws.map Prod.fst) : va_D A ws1 := D_fst hf hD
theorem stF {ca : Nat → ClassId} {h : Nat} {a : Nat → Nat} {S T : SS} : (stT ca h a S).map Prod.fst = (stT ca h a T).map Prod.fst := rfl
theorem paF {ca : Nat → ClassId} {h a : Nat} {S T : PP} : (paT ca h a S).map Prod.fst = (paT ca h a T).map Prod.fst := rfl
theorem app_F {a a1 b b1 : va_W} (h1 : a1.map Prod.fst = a.map Prod.fst) (h2 : b1.map Prod.fst = b.map Prod.fst) : (a1 ++ b1).map Prod.fst = (a ++ b).map Prod.fst := by rw [List.map_append, List.map_append, h1, h2]
