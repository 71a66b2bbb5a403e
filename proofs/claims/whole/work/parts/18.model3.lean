/-! the reference: reading the pad -/
def rhO (g : Nat → Int32) (n s : Nat) : Int32 × Nat :=
  if nI s = nI n then ((-6), s)
  else if g s = 115 then (0, s + 1)
  else if g s = 102 then (10, s + 1)
  else if g s = 100 then (11, s + 1)
  else if g s = 114 then (if nI (s + 1) = nI n then ((-6), s + 1) else if inC (g (s + 1)) 49 57 = 0 then ((-6), s + 1) else (g (s + 1) - 48, s + 2))
  else ((-6), s)
theorem rhO_le (g : Nat → Int32) {n s : Nat} (h : s ≤ n) (hn : n ≤ 60) : (rhO g n s).2 ≤ n ∧ ((rhO g n s).1 = -6 ∨ s + 1 ≤ (rhO g n s).2) := by
  unfold rhO
  split
  · exact ⟨h, Or.inl rfl⟩
  · rename_i c0
    have c1 : ¬ s = n := fun q => c0 (by rw [q])
    have h1 : s + 1 ≤ n := by omega
    split
    · exact ⟨h1, Or.inr (Nat.le_refl _)⟩
    split
    · exact ⟨h1, Or.inr (Nat.le_refl _)⟩
    split
    · exact ⟨h1, Or.inr (Nat.le_refl _)⟩
    split
    · split
      · exact ⟨h1, Or.inl rfl⟩
      · rename_i c2
        have c3 : ¬ s + 1 = n := fun q => c2 (by rw [q])
        split
        · exact ⟨h1, Or.inl rfl⟩
        · exact ⟨by show s + 2 ≤ n; omega, Or.inr (by show s + 1 ≤ s + 2; omega)⟩
    · exact ⟨h, Or.inl rfl⟩
def rpD (g : Nat → Int32) (n : Nat) : Nat → Int32 × Nat | 0 => rhO g n 0 | j + 1 => rhO g n (rpD g n j).2
def tdL (g : Nat → Int32) (n : Nat) (td : Nat → Int32) : Nat → (Nat → Int32) | 0 => td | j + 1 => upd (tdL g n td j) j (rpD g n j).1
def rpG (g : Nat → Int32) (n : Nat) : Nat → Nat → Int32 × Nat × Nat
  | 0, i => (0, i, (rpD g n i).2)
  | q + 1, i => if (rpD g n i).1 = -6 then (0, i, (rpD g n i).2) else if nI (rpD g n i).2 = nI n then (1, i + 1, (rpD g n i).2) else rpG g n q (i + 1)
theorem rpG_0 (g : Nat → Int32) (n i : Nat) : rpG g n 0 i = (0, i, (rpD g n i).2) := rfl
theorem rpG_s (g : Nat → Int32) (n q i : Nat) : rpG g n (q + 1) i = if (rpD g n i).1 = -6 then (0, i, (rpD g n i).2) else if nI (rpD g n i).2 = nI n then (1, i + 1, (rpD g n i).2) else rpG g n q (i + 1) := rfl
theorem rpG_nar (g : Nat → Int32) (n q : Nat) : ∀ i, narrow .boolean (.int (rpG g n q i).1) = .int (rpG g n q i).1 := by
  induction q with
  | zero => intro i; rw [rpG_0]; show narrow .boolean (.int 0) = .int 0; rfl
  | succ q ih =>
    intro i
    rw [rpG_s]
    split
    · show narrow .boolean (.int 0) = .int 0; rfl
    · split
      · show narrow .boolean (.int 1) = .int 1; rfl
      · exact ih (i + 1)
set_option maxHeartbeats 4000000 in
theorem rhO_0 (g : Nat → Int32) (n s : Nat) (c : nI s = nI n) : rhO g n s = ((-6), s) := if_pos c
theorem rhO_s (g : Nat → Int32) (n s : Nat) (c : ¬ nI s = nI n) (d : g s = 115) : rhO g n s = (0, s + 1) := by unfold rhO; rw [if_neg c, if_pos d]
theorem rhO_f (g : Nat → Int32) (n s : Nat) (c : ¬ nI s = nI n) (d : g s = 102) : rhO g n s = (10, s + 1) := by unfold rhO; rw [if_neg c, d]; rfl
theorem rhO_d (g : Nat → Int32) (n s : Nat) (c : ¬ nI s = nI n) (d : g s = 100) : rhO g n s = (11, s + 1) := by unfold rhO; rw [if_neg c, d]; rfl
theorem rhO_r (g : Nat → Int32) (n s : Nat) (c : ¬ nI s = nI n) (d : g s = 114) : rhO g n s = if nI (s + 1) = nI n then ((-6), s + 1) else if inC (g (s + 1)) 49 57 = 0 then ((-6), s + 1) else (g (s + 1) - 48, s + 2) := by unfold rhO; rw [if_neg c, d]; rfl
theorem rhO_n (g : Nat → Int32) (n s : Nat) (c : ¬ nI s = nI n) (d1 : ¬ g s = 115) (d2 : ¬ g s = 102) (d3 : ¬ g s = 100) (d4 : ¬ g s = 114) : rhO g n s = ((-6), s) := by unfold rhO; rw [if_neg c, if_neg d1, if_neg d2, if_neg d3, if_neg d4]
set_option maxHeartbeats 4000000 in
set_option maxRecDepth 100000 in
theorem c_X5_readHour (l : Launch) (G : va_G) (ca : Nat → ClassId) (h : Nat) (a : Nat → Nat) (M : MM) (n : Nat) (s1 : Nat) (hty : m_typed M = nI n) (hsp : m_spot M = nI s1) (hs : s1 ≤ n) (hn : n ≤ 60) : CtI l yX5_readHour wsX5_readHour ({ frames := 1, cells := 0, slots := 0, locals := 22 }) [.ref h] G ca (moT ca h a M) (moT ca h a (m_z M, m_past M, m_states M, m_slots M, m_isSaved M, m_pad M, m_typed M, nI (rhO (m_pad M) n s1).2, m_told M, m_toldMany M)) ((rhO (m_pad M) n s1).1) := by
  refine CtI.ofW (cc := cX5_readHour) (maxL := 2) (rt := .int) (by decide) rfl (Nat.le_of_ble_eq_true rfl) rfl ?_
  intro pr en s m be me c A ls Q H hx hb hml hts hown hev hP hD hA hS hl hret
  have hown : s.vm.findClass RX5 = some m.cls := hown
  have hl : lv_has ls 2 [(0, .ref h)] := hl
  have in_wsX50 : ∀ w ∈ wsX50, w ∈ wsX5_readHour := fun _ h => List.mem_cons_of_mem _ (List.mem_append_right _ h)
  refine lv_aload_n hx hb dX5_readHour_0 rfl (lv_at hl 0 rfl) ?_
  refine va_get (D := G) (ci := 5) (v := .int (m_spot M)) (C := RX5) (T := TX5) (N := 10) hx hb hts in_wsX50 hown hev.1 hP 0 rfl rfl 7 (by decide) (hts (.fieldLink RX5 133 "PuddleMinistriesModel" "spot" "I") (List.mem_of_getElem? (i := 1) rfl)) (fun _ h9 => h9) rfl dX5_readHour_1 ?_
  refine lv_eqi hsp ?_
  refine lv_aload_n hx hb dX5_readHour_4 rfl (lv_at hl 0 rfl) ?_
  refine va_get (D := G) (ci := 5) (v := .int (m_typed M)) (C := RX5) (T := TX5) (N := 10) hx hb hts in_wsX50 hown hev.1 hP 0 rfl rfl 6 (by decide) (hts (.fieldLink RX5 130 "PuddleMinistriesModel" "typed" "I") (List.mem_of_getElem? (i := 2) rfl)) (fun _ h9 => h9) rfl dX5_readHour_5 ?_
  refine lv_eqi hty ?_
  refine lv_icmp_ne (tgt := 14) hx hb dX5_readHour_8 (by decide) (fun c_1 => ?_) (fun c_1 => ?_)
  · skip
    have nc_1 : ¬ s1 = n := fun q => c_1 ((nI_eq (a := s1) (b := n) (by omega) (by omega)).mpr q)
    refine lv_aload_n hx hb dX5_readHour_14 rfl (lv_at hl 0 rfl) ?_
    refine va_get (D := G) (ci := 5) (v := .ref (a 4)) (C := RX5) (T := TX5) (N := 10) hx hb hts in_wsX50 hown hev.1 hP 0 rfl rfl 5 (by decide) (hts (.fieldLink RX5 23 "PuddleMinistriesModel" "pad" "[I") (List.mem_of_getElem? (i := 3) rfl)) (fun _ h9 => h9) rfl dX5_readHour_15 ?_
    refine lv_aload_n hx hb dX5_readHour_18 rfl (lv_at hl 0 rfl) ?_
    refine va_get (D := G) (ci := 5) (v := .int (m_spot M)) (C := RX5) (T := TX5) (N := 10) hx hb hts in_wsX50 hown hev.1 hP 0 rfl rfl 7 (by decide) (hts (.fieldLink RX5 133 "PuddleMinistriesModel" "spot" "I") (List.mem_of_getElem? (i := 1) rfl)) (fun _ h9 => h9) rfl dX5_readHour_19 ?_
    refine lv_eqi hsp ?_
    refine b_iald hx hb hev.1 hP 5 rfl rfl (j := s1) (by omega) (by decide) dX5_readHour_22 ?_
    refine lv_istore_n (lv' := [(1, .int ((m_pad M) s1)), (0, .ref h)]) hx hb dX5_readHour_23 rfl hl (by decide) rfl (fun ls hl => ?_)
    refine lv_iload_n hx hb dX5_readHour_24 rfl (lv_at hl 0 rfl) ?_
    refine lv_bipush (v := 115) hx hb dX5_readHour_25 (by decide) ?_
    refine lv_icmp_eq (tgt := 51) hx hb dX5_readHour_27 (by decide) (fun c_2 => ?_) (fun c_2 => ?_)
    · skip
      refine lv_aload_n hx hb dX5_readHour_51 rfl (lv_at hl 1 rfl) ?_
      refine lv_dup hx hb dX5_readHour_52 rfl ?_
      refine va_get (D := G) (ci := 5) (v := .int (m_spot M)) (C := RX5) (T := TX5) (N := 10) hx hb hts in_wsX50 hown hev.1 hP 0 rfl rfl 7 (by decide) (hts (.fieldLink RX5 133 "PuddleMinistriesModel" "spot" "I") (List.mem_of_getElem? (i := 1) rfl)) (fun _ h9 => h9) rfl dX5_readHour_53 ?_
      refine lv_eqi hsp ?_
      refine lv_iconst (v := nI 1) hx hb dX5_readHour_56 (by decide) ?_
      refine lv_iadd hx hb dX5_readHour_57 ?_
      refine lv_eqi (nI_add _ _) ?_
      refine va_put (D := G) (ci := 5) (v := .int (nI (s1 + 1))) (ty := .int) (C := RX5) (T := TX5) (N := 10) hx hb hts in_wsX50 tyX5 tyX5_ok nmX5 hown hev.1 hP hD hS 0 rfl rfl 7 (by decide) (hts (.fieldLink RX5 133 "PuddleMinistriesModel" "spot" "I") (List.mem_of_getElem? (i := 1) rfl)) (fun _ h9 => h9) rfl (by decide +kernel) rfl rfl (Nat.le_of_ble_eq_true rfl) dX5_readHour_58 (fun H locs hP hD hS => ?_)
      have hP : va_P G vwCl (moT ca h a (m_z M, m_past M, m_states M, m_slots M, m_isSaved M, m_pad M, m_typed M, nI (s1 + 1), m_told M, m_toldMany M)) H := hP
      have hD : va_D A (moT ca h a (m_z M, m_past M, m_states M, m_slots M, m_isSaved M, m_pad M, m_typed M, nI (s1 + 1), m_told M, m_toldMany M)) := hD
      refine lv_iload_n hx hb dX5_readHour_61 rfl (lv_at hl 0 rfl) ?_
      refine lv_bipush (v := 114) hx hb dX5_readHour_62 (by decide) ?_
      refine lv_icmp_eq (tgt := 91) hx hb dX5_readHour_64 (by decide) (fun c_3 => ?_) (fun c_3 => ?_)
      · skip
        exact absurd (c_2.symm.trans c_3) (by decide)
      · skip
        refine lv_iload_n hx hb dX5_readHour_67 rfl (lv_at hl 0 rfl) ?_
        refine lv_bipush (v := 115) hx hb dX5_readHour_68 (by decide) ?_
        refine lv_icmp_ne (tgt := 77) hx hb dX5_readHour_70 (by decide) (fun c_4 => ?_) (fun c_4 => ?_)
        · skip
          exact absurd c_2 c_4
        · skip
          refine lv_iconst (v := 0) hx hb dX5_readHour_73 (by decide) ?_
          refine lv_goto (tgt := 90) hx hb dX5_readHour_74 (by decide) ?_
          have e_5 : (nI (rhO (m_pad M) n s1).2) = (nI (s1 + 1)) := by first | (rw [rhO_0 _ _ _ (by assumption)] <;> first | rfl | exact hsp.symm) | (rw [rhO_s _ _ _ (by assumption) (by assumption)] <;> first | rfl | exact hsp.symm) | (rw [rhO_f _ _ _ (by assumption) (by assumption)] <;> first | rfl | exact hsp.symm) | (rw [rhO_d _ _ _ (by assumption) (by assumption)] <;> first | rfl | exact hsp.symm) | (rw [rhO_r _ _ _ (by assumption) (by assumption), if_pos (by assumption)] <;> first | rfl | exact hsp.symm) | (rw [rhO_r _ _ _ (by assumption) (by assumption), if_neg (by assumption), if_pos (by assumption)] <;> first | rfl | exact hsp.symm) | (rw [rhO_r _ _ _ (by assumption) (by assumption), if_neg (by assumption), if_neg (by assumption)] <;> first | rfl | exact hsp.symm) | (rw [rhO_n _ _ _ (by assumption) (by assumption) (by assumption) (by assumption) (by assumption)] <;> first | rfl | exact hsp.symm)
          refine lv_eqi (y := (rhO (m_pad M) n s1).1) (by first | (rw [rhO_0 _ _ _ (by assumption)] <;> first | rfl | exact hsp.symm) | (rw [rhO_s _ _ _ (by assumption) (by assumption)] <;> first | rfl | exact hsp.symm) | (rw [rhO_f _ _ _ (by assumption) (by assumption)] <;> first | rfl | exact hsp.symm) | (rw [rhO_d _ _ _ (by assumption) (by assumption)] <;> first | rfl | exact hsp.symm) | (rw [rhO_r _ _ _ (by assumption) (by assumption), if_pos (by assumption)] <;> first | rfl | exact hsp.symm) | (rw [rhO_r _ _ _ (by assumption) (by assumption), if_neg (by assumption), if_pos (by assumption)] <;> first | rfl | exact hsp.symm) | (rw [rhO_r _ _ _ (by assumption) (by assumption), if_neg (by assumption), if_neg (by assumption)] <;> first | rfl | exact hsp.symm) | (rw [rhO_n _ _ _ (by assumption) (by assumption) (by assumption) (by assumption) (by assumption)] <;> first | rfl | exact hsp.symm)) ?_
          exact hret _ _ _ _ (by rw [e_5]; exact hP) hS dX5_readHour_90
    · skip
      refine lv_iload_n hx hb dX5_readHour_30 rfl (lv_at hl 0 rfl) ?_
      refine lv_bipush (v := 102) hx hb dX5_readHour_31 (by decide) ?_
      refine lv_icmp_eq (tgt := 51) hx hb dX5_readHour_33 (by decide) (fun c_6 => ?_) (fun c_6 => ?_)
      · skip
        refine lv_aload_n hx hb dX5_readHour_51 rfl (lv_at hl 1 rfl) ?_
        refine lv_dup hx hb dX5_readHour_52 rfl ?_
        refine va_get (D := G) (ci := 5) (v := .int (m_spot M)) (C := RX5) (T := TX5) (N := 10) hx hb hts in_wsX50 hown hev.1 hP 0 rfl rfl 7 (by decide) (hts (.fieldLink RX5 133 "PuddleMinistriesModel" "spot" "I") (List.mem_of_getElem? (i := 1) rfl)) (fun _ h9 => h9) rfl dX5_readHour_53 ?_
        refine lv_eqi hsp ?_
        refine lv_iconst (v := nI 1) hx hb dX5_readHour_56 (by decide) ?_
        refine lv_iadd hx hb dX5_readHour_57 ?_
        refine lv_eqi (nI_add _ _) ?_
        refine va_put (D := G) (ci := 5) (v := .int (nI (s1 + 1))) (ty := .int) (C := RX5) (T := TX5) (N := 10) hx hb hts in_wsX50 tyX5 tyX5_ok nmX5 hown hev.1 hP hD hS 0 rfl rfl 7 (by decide) (hts (.fieldLink RX5 133 "PuddleMinistriesModel" "spot" "I") (List.mem_of_getElem? (i := 1) rfl)) (fun _ h9 => h9) rfl (by decide +kernel) rfl rfl (Nat.le_of_ble_eq_true rfl) dX5_readHour_58 (fun H locs hP hD hS => ?_)
        have hP : va_P G vwCl (moT ca h a (m_z M, m_past M, m_states M, m_slots M, m_isSaved M, m_pad M, m_typed M, nI (s1 + 1), m_told M, m_toldMany M)) H := hP
        have hD : va_D A (moT ca h a (m_z M, m_past M, m_states M, m_slots M, m_isSaved M, m_pad M, m_typed M, nI (s1 + 1), m_told M, m_toldMany M)) := hD
        refine lv_iload_n hx hb dX5_readHour_61 rfl (lv_at hl 0 rfl) ?_
        refine lv_bipush (v := 114) hx hb dX5_readHour_62 (by decide) ?_
        refine lv_icmp_eq (tgt := 91) hx hb dX5_readHour_64 (by decide) (fun c_7 => ?_) (fun c_7 => ?_)
        · skip
          exact absurd (c_6.symm.trans c_7) (by decide)
        · skip
          refine lv_iload_n hx hb dX5_readHour_67 rfl (lv_at hl 0 rfl) ?_
          refine lv_bipush (v := 115) hx hb dX5_readHour_68 (by decide) ?_
          refine lv_icmp_ne (tgt := 77) hx hb dX5_readHour_70 (by decide) (fun c_8 => ?_) (fun c_8 => ?_)
          · skip
            refine lv_iload_n hx hb dX5_readHour_77 rfl (lv_at hl 0 rfl) ?_
            refine lv_bipush (v := 102) hx hb dX5_readHour_78 (by decide) ?_
            refine lv_icmp_ne (tgt := 88) hx hb dX5_readHour_80 (by decide) (fun c_9 => ?_) (fun c_9 => ?_)
            · skip
              exact absurd c_6 c_9
            · skip
              refine lv_bipush (v := 10) hx hb dX5_readHour_83 (by decide) ?_
              refine lv_goto (tgt := 90) hx hb dX5_readHour_85 (by decide) ?_
              have e_10 : (nI (rhO (m_pad M) n s1).2) = (nI (s1 + 1)) := by first | (rw [rhO_0 _ _ _ (by assumption)] <;> first | rfl | exact hsp.symm) | (rw [rhO_s _ _ _ (by assumption) (by assumption)] <;> first | rfl | exact hsp.symm) | (rw [rhO_f _ _ _ (by assumption) (by assumption)] <;> first | rfl | exact hsp.symm) | (rw [rhO_d _ _ _ (by assumption) (by assumption)] <;> first | rfl | exact hsp.symm) | (rw [rhO_r _ _ _ (by assumption) (by assumption), if_pos (by assumption)] <;> first | rfl | exact hsp.symm) | (rw [rhO_r _ _ _ (by assumption) (by assumption), if_neg (by assumption), if_pos (by assumption)] <;> first | rfl | exact hsp.symm) | (rw [rhO_r _ _ _ (by assumption) (by assumption), if_neg (by assumption), if_neg (by assumption)] <;> first | rfl | exact hsp.symm) | (rw [rhO_n _ _ _ (by assumption) (by assumption) (by assumption) (by assumption) (by assumption)] <;> first | rfl | exact hsp.symm)
              refine lv_eqi (y := (rhO (m_pad M) n s1).1) (by first | (rw [rhO_0 _ _ _ (by assumption)] <;> first | rfl | exact hsp.symm) | (rw [rhO_s _ _ _ (by assumption) (by assumption)] <;> first | rfl | exact hsp.symm) | (rw [rhO_f _ _ _ (by assumption) (by assumption)] <;> first | rfl | exact hsp.symm) | (rw [rhO_d _ _ _ (by assumption) (by assumption)] <;> first | rfl | exact hsp.symm) | (rw [rhO_r _ _ _ (by assumption) (by assumption), if_pos (by assumption)] <;> first | rfl | exact hsp.symm) | (rw [rhO_r _ _ _ (by assumption) (by assumption), if_neg (by assumption), if_pos (by assumption)] <;> first | rfl | exact hsp.symm) | (rw [rhO_r _ _ _ (by assumption) (by assumption), if_neg (by assumption), if_neg (by assumption)] <;> first | rfl | exact hsp.symm) | (rw [rhO_n _ _ _ (by assumption) (by assumption) (by assumption) (by assumption) (by assumption)] <;> first | rfl | exact hsp.symm)) ?_
              exact hret _ _ _ _ (by rw [e_10]; exact hP) hS dX5_readHour_90
          · skip
            exact absurd (c_6.symm.trans c_8) (by decide)
      · skip
        refine lv_iload_n hx hb dX5_readHour_36 rfl (lv_at hl 0 rfl) ?_
        refine lv_bipush (v := 100) hx hb dX5_readHour_37 (by decide) ?_
        refine lv_icmp_eq (tgt := 51) hx hb dX5_readHour_39 (by decide) (fun c_11 => ?_) (fun c_11 => ?_)
        · skip
          refine lv_aload_n hx hb dX5_readHour_51 rfl (lv_at hl 1 rfl) ?_
          refine lv_dup hx hb dX5_readHour_52 rfl ?_
          refine va_get (D := G) (ci := 5) (v := .int (m_spot M)) (C := RX5) (T := TX5) (N := 10) hx hb hts in_wsX50 hown hev.1 hP 0 rfl rfl 7 (by decide) (hts (.fieldLink RX5 133 "PuddleMinistriesModel" "spot" "I") (List.mem_of_getElem? (i := 1) rfl)) (fun _ h9 => h9) rfl dX5_readHour_53 ?_
          refine lv_eqi hsp ?_
          refine lv_iconst (v := nI 1) hx hb dX5_readHour_56 (by decide) ?_
          refine lv_iadd hx hb dX5_readHour_57 ?_
          refine lv_eqi (nI_add _ _) ?_
          refine va_put (D := G) (ci := 5) (v := .int (nI (s1 + 1))) (ty := .int) (C := RX5) (T := TX5) (N := 10) hx hb hts in_wsX50 tyX5 tyX5_ok nmX5 hown hev.1 hP hD hS 0 rfl rfl 7 (by decide) (hts (.fieldLink RX5 133 "PuddleMinistriesModel" "spot" "I") (List.mem_of_getElem? (i := 1) rfl)) (fun _ h9 => h9) rfl (by decide +kernel) rfl rfl (Nat.le_of_ble_eq_true rfl) dX5_readHour_58 (fun H locs hP hD hS => ?_)
          have hP : va_P G vwCl (moT ca h a (m_z M, m_past M, m_states M, m_slots M, m_isSaved M, m_pad M, m_typed M, nI (s1 + 1), m_told M, m_toldMany M)) H := hP
          have hD : va_D A (moT ca h a (m_z M, m_past M, m_states M, m_slots M, m_isSaved M, m_pad M, m_typed M, nI (s1 + 1), m_told M, m_toldMany M)) := hD
          refine lv_iload_n hx hb dX5_readHour_61 rfl (lv_at hl 0 rfl) ?_
          refine lv_bipush (v := 114) hx hb dX5_readHour_62 (by decide) ?_
          refine lv_icmp_eq (tgt := 91) hx hb dX5_readHour_64 (by decide) (fun c_12 => ?_) (fun c_12 => ?_)
          · skip
            exact absurd (c_11.symm.trans c_12) (by decide)
          · skip
            refine lv_iload_n hx hb dX5_readHour_67 rfl (lv_at hl 0 rfl) ?_
            refine lv_bipush (v := 115) hx hb dX5_readHour_68 (by decide) ?_
            refine lv_icmp_ne (tgt := 77) hx hb dX5_readHour_70 (by decide) (fun c_13 => ?_) (fun c_13 => ?_)
            · skip
              refine lv_iload_n hx hb dX5_readHour_77 rfl (lv_at hl 0 rfl) ?_
              refine lv_bipush (v := 102) hx hb dX5_readHour_78 (by decide) ?_
              refine lv_icmp_ne (tgt := 88) hx hb dX5_readHour_80 (by decide) (fun c_14 => ?_) (fun c_14 => ?_)
              · skip
                refine lv_bipush (v := 11) hx hb dX5_readHour_88 (by decide) ?_
                have e_15 : (nI (rhO (m_pad M) n s1).2) = (nI (s1 + 1)) := by first | (rw [rhO_0 _ _ _ (by assumption)] <;> first | rfl | exact hsp.symm) | (rw [rhO_s _ _ _ (by assumption) (by assumption)] <;> first | rfl | exact hsp.symm) | (rw [rhO_f _ _ _ (by assumption) (by assumption)] <;> first | rfl | exact hsp.symm) | (rw [rhO_d _ _ _ (by assumption) (by assumption)] <;> first | rfl | exact hsp.symm) | (rw [rhO_r _ _ _ (by assumption) (by assumption), if_pos (by assumption)] <;> first | rfl | exact hsp.symm) | (rw [rhO_r _ _ _ (by assumption) (by assumption), if_neg (by assumption), if_pos (by assumption)] <;> first | rfl | exact hsp.symm) | (rw [rhO_r _ _ _ (by assumption) (by assumption), if_neg (by assumption), if_neg (by assumption)] <;> first | rfl | exact hsp.symm) | (rw [rhO_n _ _ _ (by assumption) (by assumption) (by assumption) (by assumption) (by assumption)] <;> first | rfl | exact hsp.symm)
                refine lv_eqi (y := (rhO (m_pad M) n s1).1) (by first | (rw [rhO_0 _ _ _ (by assumption)] <;> first | rfl | exact hsp.symm) | (rw [rhO_s _ _ _ (by assumption) (by assumption)] <;> first | rfl | exact hsp.symm) | (rw [rhO_f _ _ _ (by assumption) (by assumption)] <;> first | rfl | exact hsp.symm) | (rw [rhO_d _ _ _ (by assumption) (by assumption)] <;> first | rfl | exact hsp.symm) | (rw [rhO_r _ _ _ (by assumption) (by assumption), if_pos (by assumption)] <;> first | rfl | exact hsp.symm) | (rw [rhO_r _ _ _ (by assumption) (by assumption), if_neg (by assumption), if_pos (by assumption)] <;> first | rfl | exact hsp.symm) | (rw [rhO_r _ _ _ (by assumption) (by assumption), if_neg (by assumption), if_neg (by assumption)] <;> first | rfl | exact hsp.symm) | (rw [rhO_n _ _ _ (by assumption) (by assumption) (by assumption) (by assumption) (by assumption)] <;> first | rfl | exact hsp.symm)) ?_
                exact hret _ _ _ _ (by rw [e_15]; exact hP) hS dX5_readHour_90
              · skip
                exact absurd (c_11.symm.trans c_14) (by decide)
            · skip
              exact absurd (c_11.symm.trans c_13) (by decide)
        · skip
          refine lv_iload_n hx hb dX5_readHour_42 rfl (lv_at hl 0 rfl) ?_
          refine lv_bipush (v := 114) hx hb dX5_readHour_43 (by decide) ?_
          refine lv_icmp_eq (tgt := 51) hx hb dX5_readHour_45 (by decide) (fun c_16 => ?_) (fun c_16 => ?_)
          · skip
            refine lv_aload_n hx hb dX5_readHour_51 rfl (lv_at hl 1 rfl) ?_
            refine lv_dup hx hb dX5_readHour_52 rfl ?_
            refine va_get (D := G) (ci := 5) (v := .int (m_spot M)) (C := RX5) (T := TX5) (N := 10) hx hb hts in_wsX50 hown hev.1 hP 0 rfl rfl 7 (by decide) (hts (.fieldLink RX5 133 "PuddleMinistriesModel" "spot" "I") (List.mem_of_getElem? (i := 1) rfl)) (fun _ h9 => h9) rfl dX5_readHour_53 ?_
            refine lv_eqi hsp ?_
            refine lv_iconst (v := nI 1) hx hb dX5_readHour_56 (by decide) ?_
            refine lv_iadd hx hb dX5_readHour_57 ?_
            refine lv_eqi (nI_add _ _) ?_
            refine va_put (D := G) (ci := 5) (v := .int (nI (s1 + 1))) (ty := .int) (C := RX5) (T := TX5) (N := 10) hx hb hts in_wsX50 tyX5 tyX5_ok nmX5 hown hev.1 hP hD hS 0 rfl rfl 7 (by decide) (hts (.fieldLink RX5 133 "PuddleMinistriesModel" "spot" "I") (List.mem_of_getElem? (i := 1) rfl)) (fun _ h9 => h9) rfl (by decide +kernel) rfl rfl (Nat.le_of_ble_eq_true rfl) dX5_readHour_58 (fun H locs hP hD hS => ?_)
            have hP : va_P G vwCl (moT ca h a (m_z M, m_past M, m_states M, m_slots M, m_isSaved M, m_pad M, m_typed M, nI (s1 + 1), m_told M, m_toldMany M)) H := hP
            have hD : va_D A (moT ca h a (m_z M, m_past M, m_states M, m_slots M, m_isSaved M, m_pad M, m_typed M, nI (s1 + 1), m_told M, m_toldMany M)) := hD
            refine lv_iload_n hx hb dX5_readHour_61 rfl (lv_at hl 0 rfl) ?_
            refine lv_bipush (v := 114) hx hb dX5_readHour_62 (by decide) ?_
            refine lv_icmp_eq (tgt := 91) hx hb dX5_readHour_64 (by decide) (fun c_17 => ?_) (fun c_17 => ?_)
            · skip
              refine lv_aload_n hx hb dX5_readHour_91 rfl (lv_at hl 1 rfl) ?_
              refine va_get (D := G) (ci := 5) (v := .int (nI (s1 + 1))) (C := RX5) (T := TX5) (N := 10) hx hb hts in_wsX50 hown hev.1 hP 0 rfl rfl 7 (by decide) (hts (.fieldLink RX5 133 "PuddleMinistriesModel" "spot" "I") (List.mem_of_getElem? (i := 1) rfl)) (fun _ h9 => h9) rfl dX5_readHour_92 ?_
              refine lv_aload_n hx hb dX5_readHour_95 rfl (lv_at hl 1 rfl) ?_
              refine va_get (D := G) (ci := 5) (v := .int (m_typed M)) (C := RX5) (T := TX5) (N := 10) hx hb hts in_wsX50 hown hev.1 hP 0 rfl rfl 6 (by decide) (hts (.fieldLink RX5 130 "PuddleMinistriesModel" "typed" "I") (List.mem_of_getElem? (i := 2) rfl)) (fun _ h9 => h9) rfl dX5_readHour_96 ?_
              refine lv_eqi hty ?_
              refine lv_icmp_eq (tgt := 121) hx hb dX5_readHour_99 (by decide) (fun c_18 => ?_) (fun c_18 => ?_)
              · skip
                have nc_18 : (s1 + 1) = n := (nI_eq (a := (s1 + 1)) (b := n) (by omega) (by omega)).mp c_18
                refine lv_bipush (v := (-6)) hx hb dX5_readHour_121 (by decide) ?_
                have e_19 : (nI (rhO (m_pad M) n s1).2) = (nI (s1 + 1)) := by first | (rw [rhO_0 _ _ _ (by assumption)] <;> first | rfl | exact hsp.symm) | (rw [rhO_s _ _ _ (by assumption) (by assumption)] <;> first | rfl | exact hsp.symm) | (rw [rhO_f _ _ _ (by assumption) (by assumption)] <;> first | rfl | exact hsp.symm) | (rw [rhO_d _ _ _ (by assumption) (by assumption)] <;> first | rfl | exact hsp.symm) | (rw [rhO_r _ _ _ (by assumption) (by assumption), if_pos (by assumption)] <;> first | rfl | exact hsp.symm) | (rw [rhO_r _ _ _ (by assumption) (by assumption), if_neg (by assumption), if_pos (by assumption)] <;> first | rfl | exact hsp.symm) | (rw [rhO_r _ _ _ (by assumption) (by assumption), if_neg (by assumption), if_neg (by assumption)] <;> first | rfl | exact hsp.symm) | (rw [rhO_n _ _ _ (by assumption) (by assumption) (by assumption) (by assumption) (by assumption)] <;> first | rfl | exact hsp.symm)
                refine lv_eqi (y := (rhO (m_pad M) n s1).1) (by first | (rw [rhO_0 _ _ _ (by assumption)] <;> first | rfl | exact hsp.symm) | (rw [rhO_s _ _ _ (by assumption) (by assumption)] <;> first | rfl | exact hsp.symm) | (rw [rhO_f _ _ _ (by assumption) (by assumption)] <;> first | rfl | exact hsp.symm) | (rw [rhO_d _ _ _ (by assumption) (by assumption)] <;> first | rfl | exact hsp.symm) | (rw [rhO_r _ _ _ (by assumption) (by assumption), if_pos (by assumption)] <;> first | rfl | exact hsp.symm) | (rw [rhO_r _ _ _ (by assumption) (by assumption), if_neg (by assumption), if_pos (by assumption)] <;> first | rfl | exact hsp.symm) | (rw [rhO_r _ _ _ (by assumption) (by assumption), if_neg (by assumption), if_neg (by assumption)] <;> first | rfl | exact hsp.symm) | (rw [rhO_n _ _ _ (by assumption) (by assumption) (by assumption) (by assumption) (by assumption)] <;> first | rfl | exact hsp.symm)) ?_
                exact hret _ _ _ _ (by rw [e_19]; exact hP) hS dX5_readHour_123
              · skip
                have nc_18 : ¬ (s1 + 1) = n := fun q => c_18 ((nI_eq (a := (s1 + 1)) (b := n) (by omega) (by omega)).mpr q)
                refine lv_aload_n hx hb dX5_readHour_102 rfl (lv_at hl 1 rfl) ?_
                refine va_get (D := G) (ci := 5) (v := .ref (a 4)) (C := RX5) (T := TX5) (N := 10) hx hb hts in_wsX50 hown hev.1 hP 0 rfl rfl 5 (by decide) (hts (.fieldLink RX5 23 "PuddleMinistriesModel" "pad" "[I") (List.mem_of_getElem? (i := 3) rfl)) (fun _ h9 => h9) rfl dX5_readHour_103 ?_
                refine lv_aload_n hx hb dX5_readHour_106 rfl (lv_at hl 1 rfl) ?_
                refine va_get (D := G) (ci := 5) (v := .int (nI (s1 + 1))) (C := RX5) (T := TX5) (N := 10) hx hb hts in_wsX50 hown hev.1 hP 0 rfl rfl 7 (by decide) (hts (.fieldLink RX5 133 "PuddleMinistriesModel" "spot" "I") (List.mem_of_getElem? (i := 1) rfl)) (fun _ h9 => h9) rfl dX5_readHour_107 ?_
                refine b_iald hx hb hev.1 hP 5 rfl rfl (j := (s1 + 1)) (by omega) (by decide) dX5_readHour_110 ?_
                refine lv_bipush (v := 49) hx hb dX5_readHour_111 (by decide) ?_
                refine lv_bipush (v := 57) hx hb dX5_readHour_113 (by decide) ?_
                refine goI0 (va_runS (As := [.int ((m_pad M) (s1 + 1)), .int 49, .int 57]) (rest := []) ⟨hx, hb, hml, hown, hts⟩ (CtI.use (c_X5_in l G ca ((m_pad M) (s1 + 1)) 49 57) H.size) (va_cwS 3 hts gX5_readHour_X5_in rfl rfl rfl (by decide +kernel) ⟨Nat.le_of_ble_eq_true rfl, Nat.le_of_ble_eq_true rfl⟩) (pcW_S hev P_nil (D_nil (A := A))) rfl rfl hl.1 rfl (lv_room (Nat.le_of_ble_eq_true rfl)) dX5_readHour_115 ⟨Nat.zero_le _, Nat.zero_le _⟩) hP hS hA (fun H locs hP hS => ?_)
                refine lv_if_ne (tgt := 124) hx hb dX5_readHour_118 (by decide) (fun c_20 => ?_) (fun c_20 => ?_)
                · skip
                  refine lv_aload_n hx hb dX5_readHour_124 rfl (lv_at hl 1 rfl) ?_
                  refine lv_dup hx hb dX5_readHour_125 rfl ?_
                  refine va_get (D := G) (ci := 5) (v := .int (nI (s1 + 1))) (C := RX5) (T := TX5) (N := 10) hx hb hts in_wsX50 hown hev.1 hP 0 rfl rfl 7 (by decide) (hts (.fieldLink RX5 133 "PuddleMinistriesModel" "spot" "I") (List.mem_of_getElem? (i := 1) rfl)) (fun _ h9 => h9) rfl dX5_readHour_126 ?_
                  refine lv_iconst (v := nI 1) hx hb dX5_readHour_129 (by decide) ?_
                  refine lv_iadd hx hb dX5_readHour_130 ?_
                  refine lv_eqi (nI_add _ _) ?_
                  refine va_put (D := G) (ci := 5) (v := .int (nI ((s1 + 1) + 1))) (ty := .int) (C := RX5) (T := TX5) (N := 10) hx hb hts in_wsX50 tyX5 tyX5_ok nmX5 hown hev.1 hP hD hS 0 rfl rfl 7 (by decide) (hts (.fieldLink RX5 133 "PuddleMinistriesModel" "spot" "I") (List.mem_of_getElem? (i := 1) rfl)) (fun _ h9 => h9) rfl (by decide +kernel) rfl rfl (Nat.le_of_ble_eq_true rfl) dX5_readHour_131 (fun H locs hP hD hS => ?_)
                  have hP : va_P G vwCl (moT ca h a (m_z M, m_past M, m_states M, m_slots M, m_isSaved M, m_pad M, m_typed M, nI ((s1 + 1) + 1), m_told M, m_toldMany M)) H := hP
                  have hD : va_D A (moT ca h a (m_z M, m_past M, m_states M, m_slots M, m_isSaved M, m_pad M, m_typed M, nI ((s1 + 1) + 1), m_told M, m_toldMany M)) := hD
                  refine lv_aload_n hx hb dX5_readHour_134 rfl (lv_at hl 1 rfl) ?_
                  refine va_get (D := G) (ci := 5) (v := .ref (a 4)) (C := RX5) (T := TX5) (N := 10) hx hb hts in_wsX50 hown hev.1 hP 0 rfl rfl 5 (by decide) (hts (.fieldLink RX5 23 "PuddleMinistriesModel" "pad" "[I") (List.mem_of_getElem? (i := 3) rfl)) (fun _ h9 => h9) rfl dX5_readHour_135 ?_
                  refine lv_aload_n hx hb dX5_readHour_138 rfl (lv_at hl 1 rfl) ?_
                  refine va_get (D := G) (ci := 5) (v := .int (nI ((s1 + 1) + 1))) (C := RX5) (T := TX5) (N := 10) hx hb hts in_wsX50 hown hev.1 hP 0 rfl rfl 7 (by decide) (hts (.fieldLink RX5 133 "PuddleMinistriesModel" "spot" "I") (List.mem_of_getElem? (i := 1) rfl)) (fun _ h9 => h9) rfl dX5_readHour_139 ?_
                  refine lv_iconst (v := nI 1) hx hb dX5_readHour_142 (by decide) ?_
                  refine lv_isub hx hb dX5_readHour_143 ?_
                  refine lv_eqi (pk_sub (by omega)) ?_
                  refine b_iald hx hb hev.1 hP 5 rfl rfl (j := (((s1 + 1) + 1) - 1)) (by omega) (by decide) dX5_readHour_144 ?_
                  refine lv_bipush (v := 48) hx hb dX5_readHour_145 (by decide) ?_
                  refine lv_isub hx hb dX5_readHour_147 ?_
                  have e_21 : (nI (rhO (m_pad M) n s1).2) = (nI ((s1 + 1) + 1)) := by first | (rw [rhO_0 _ _ _ (by assumption)] <;> first | rfl | exact hsp.symm) | (rw [rhO_s _ _ _ (by assumption) (by assumption)] <;> first | rfl | exact hsp.symm) | (rw [rhO_f _ _ _ (by assumption) (by assumption)] <;> first | rfl | exact hsp.symm) | (rw [rhO_d _ _ _ (by assumption) (by assumption)] <;> first | rfl | exact hsp.symm) | (rw [rhO_r _ _ _ (by assumption) (by assumption), if_pos (by assumption)] <;> first | rfl | exact hsp.symm) | (rw [rhO_r _ _ _ (by assumption) (by assumption), if_neg (by assumption), if_pos (by assumption)] <;> first | rfl | exact hsp.symm) | (rw [rhO_r _ _ _ (by assumption) (by assumption), if_neg (by assumption), if_neg (by assumption)] <;> first | rfl | exact hsp.symm) | (rw [rhO_n _ _ _ (by assumption) (by assumption) (by assumption) (by assumption) (by assumption)] <;> first | rfl | exact hsp.symm)
                  refine lv_eqi (y := (rhO (m_pad M) n s1).1) (by first | (rw [rhO_0 _ _ _ (by assumption)] <;> first | rfl | exact hsp.symm) | (rw [rhO_s _ _ _ (by assumption) (by assumption)] <;> first | rfl | exact hsp.symm) | (rw [rhO_f _ _ _ (by assumption) (by assumption)] <;> first | rfl | exact hsp.symm) | (rw [rhO_d _ _ _ (by assumption) (by assumption)] <;> first | rfl | exact hsp.symm) | (rw [rhO_r _ _ _ (by assumption) (by assumption), if_pos (by assumption)] <;> first | rfl | exact hsp.symm) | (rw [rhO_r _ _ _ (by assumption) (by assumption), if_neg (by assumption), if_pos (by assumption)] <;> first | rfl | exact hsp.symm) | (rw [rhO_r _ _ _ (by assumption) (by assumption), if_neg (by assumption), if_neg (by assumption)] <;> first | rfl | exact hsp.symm) | (rw [rhO_n _ _ _ (by assumption) (by assumption) (by assumption) (by assumption) (by assumption)] <;> first | rfl | exact hsp.symm)) ?_
                  exact hret _ _ _ _ (by rw [e_21]; exact hP) hS dX5_readHour_148
                · skip
                  refine lv_bipush (v := (-6)) hx hb dX5_readHour_121 (by decide) ?_
                  have e_22 : (nI (rhO (m_pad M) n s1).2) = (nI (s1 + 1)) := by first | (rw [rhO_0 _ _ _ (by assumption)] <;> first | rfl | exact hsp.symm) | (rw [rhO_s _ _ _ (by assumption) (by assumption)] <;> first | rfl | exact hsp.symm) | (rw [rhO_f _ _ _ (by assumption) (by assumption)] <;> first | rfl | exact hsp.symm) | (rw [rhO_d _ _ _ (by assumption) (by assumption)] <;> first | rfl | exact hsp.symm) | (rw [rhO_r _ _ _ (by assumption) (by assumption), if_pos (by assumption)] <;> first | rfl | exact hsp.symm) | (rw [rhO_r _ _ _ (by assumption) (by assumption), if_neg (by assumption), if_pos (by assumption)] <;> first | rfl | exact hsp.symm) | (rw [rhO_r _ _ _ (by assumption) (by assumption), if_neg (by assumption), if_neg (by assumption)] <;> first | rfl | exact hsp.symm) | (rw [rhO_n _ _ _ (by assumption) (by assumption) (by assumption) (by assumption) (by assumption)] <;> first | rfl | exact hsp.symm)
                  refine lv_eqi (y := (rhO (m_pad M) n s1).1) (by first | (rw [rhO_0 _ _ _ (by assumption)] <;> first | rfl | exact hsp.symm) | (rw [rhO_s _ _ _ (by assumption) (by assumption)] <;> first | rfl | exact hsp.symm) | (rw [rhO_f _ _ _ (by assumption) (by assumption)] <;> first | rfl | exact hsp.symm) | (rw [rhO_d _ _ _ (by assumption) (by assumption)] <;> first | rfl | exact hsp.symm) | (rw [rhO_r _ _ _ (by assumption) (by assumption), if_pos (by assumption)] <;> first | rfl | exact hsp.symm) | (rw [rhO_r _ _ _ (by assumption) (by assumption), if_neg (by assumption), if_pos (by assumption)] <;> first | rfl | exact hsp.symm) | (rw [rhO_r _ _ _ (by assumption) (by assumption), if_neg (by assumption), if_neg (by assumption)] <;> first | rfl | exact hsp.symm) | (rw [rhO_n _ _ _ (by assumption) (by assumption) (by assumption) (by assumption) (by assumption)] <;> first | rfl | exact hsp.symm)) ?_
                  exact hret _ _ _ _ (by rw [e_22]; exact hP) hS dX5_readHour_123
            · skip
              exact absurd c_16 c_17
          · skip
            refine lv_bipush (v := (-6)) hx hb dX5_readHour_48 (by decide) ?_
            have e_23 : (nI (rhO (m_pad M) n s1).2) = (m_spot M) := by first | (rw [rhO_0 _ _ _ (by assumption)] <;> first | rfl | exact hsp.symm) | (rw [rhO_s _ _ _ (by assumption) (by assumption)] <;> first | rfl | exact hsp.symm) | (rw [rhO_f _ _ _ (by assumption) (by assumption)] <;> first | rfl | exact hsp.symm) | (rw [rhO_d _ _ _ (by assumption) (by assumption)] <;> first | rfl | exact hsp.symm) | (rw [rhO_r _ _ _ (by assumption) (by assumption), if_pos (by assumption)] <;> first | rfl | exact hsp.symm) | (rw [rhO_r _ _ _ (by assumption) (by assumption), if_neg (by assumption), if_pos (by assumption)] <;> first | rfl | exact hsp.symm) | (rw [rhO_r _ _ _ (by assumption) (by assumption), if_neg (by assumption), if_neg (by assumption)] <;> first | rfl | exact hsp.symm) | (rw [rhO_n _ _ _ (by assumption) (by assumption) (by assumption) (by assumption) (by assumption)] <;> first | rfl | exact hsp.symm)
            refine lv_eqi (y := (rhO (m_pad M) n s1).1) (by first | (rw [rhO_0 _ _ _ (by assumption)] <;> first | rfl | exact hsp.symm) | (rw [rhO_s _ _ _ (by assumption) (by assumption)] <;> first | rfl | exact hsp.symm) | (rw [rhO_f _ _ _ (by assumption) (by assumption)] <;> first | rfl | exact hsp.symm) | (rw [rhO_d _ _ _ (by assumption) (by assumption)] <;> first | rfl | exact hsp.symm) | (rw [rhO_r _ _ _ (by assumption) (by assumption), if_pos (by assumption)] <;> first | rfl | exact hsp.symm) | (rw [rhO_r _ _ _ (by assumption) (by assumption), if_neg (by assumption), if_pos (by assumption)] <;> first | rfl | exact hsp.symm) | (rw [rhO_r _ _ _ (by assumption) (by assumption), if_neg (by assumption), if_neg (by assumption)] <;> first | rfl | exact hsp.symm) | (rw [rhO_n _ _ _ (by assumption) (by assumption) (by assumption) (by assumption) (by assumption)] <;> first | rfl | exact hsp.symm)) ?_
            exact hret _ _ _ _ (by rw [e_23]; exact hP) hS dX5_readHour_50
  · skip
    have nc_1 : s1 = n := (nI_eq (a := s1) (b := n) (by omega) (by omega)).mp c_1
    refine lv_bipush (v := (-6)) hx hb dX5_readHour_11 (by decide) ?_
    have e_24 : (nI (rhO (m_pad M) n s1).2) = (m_spot M) := by first | (rw [rhO_0 _ _ _ (by assumption)] <;> first | rfl | exact hsp.symm) | (rw [rhO_s _ _ _ (by assumption) (by assumption)] <;> first | rfl | exact hsp.symm) | (rw [rhO_f _ _ _ (by assumption) (by assumption)] <;> first | rfl | exact hsp.symm) | (rw [rhO_d _ _ _ (by assumption) (by assumption)] <;> first | rfl | exact hsp.symm) | (rw [rhO_r _ _ _ (by assumption) (by assumption), if_pos (by assumption)] <;> first | rfl | exact hsp.symm) | (rw [rhO_r _ _ _ (by assumption) (by assumption), if_neg (by assumption), if_pos (by assumption)] <;> first | rfl | exact hsp.symm) | (rw [rhO_r _ _ _ (by assumption) (by assumption), if_neg (by assumption), if_neg (by assumption)] <;> first | rfl | exact hsp.symm) | (rw [rhO_n _ _ _ (by assumption) (by assumption) (by assumption) (by assumption) (by assumption)] <;> first | rfl | exact hsp.symm)
    refine lv_eqi (y := (rhO (m_pad M) n s1).1) (by first | (rw [rhO_0 _ _ _ (by assumption)] <;> first | rfl | exact hsp.symm) | (rw [rhO_s _ _ _ (by assumption) (by assumption)] <;> first | rfl | exact hsp.symm) | (rw [rhO_f _ _ _ (by assumption) (by assumption)] <;> first | rfl | exact hsp.symm) | (rw [rhO_d _ _ _ (by assumption) (by assumption)] <;> first | rfl | exact hsp.symm) | (rw [rhO_r _ _ _ (by assumption) (by assumption), if_pos (by assumption)] <;> first | rfl | exact hsp.symm) | (rw [rhO_r _ _ _ (by assumption) (by assumption), if_neg (by assumption), if_pos (by assumption)] <;> first | rfl | exact hsp.symm) | (rw [rhO_r _ _ _ (by assumption) (by assumption), if_neg (by assumption), if_neg (by assumption)] <;> first | rfl | exact hsp.symm) | (rw [rhO_n _ _ _ (by assumption) (by assumption) (by assumption) (by assumption) (by assumption)] <;> first | rfl | exact hsp.symm)) ?_
    exact hret _ _ _ _ (by rw [e_24]; exact hP) hS dX5_readHour_13
set_option maxHeartbeats 4000000 in
set_option maxRecDepth 100000 in
theorem c_X5_readPad (l : Launch) (G : va_G) (ca : Nat → ClassId) (h : Nat) (a : Nat → Nat) (M : MM) (n : Nat) (hty : m_typed M = nI n) (hn : n ≤ 60) : CtI l yX5_readPad wsX5_readPad ({ frames := 2, cells := 0, slots := 0, locals := 43 }) [.ref h] G ca (moT ca h a M) (moT ca h a (m_z M, m_past M, m_states M, m_slots M, m_isSaved M, m_pad M, m_typed M, nI (rpG (m_pad M) n n 0).2.2, tdL (m_pad M) n (m_told M) (rpG (m_pad M) n n 0).2.1, nI (rpG (m_pad M) n n 0).2.1)) ((rpG (m_pad M) n n 0).1) := by
  refine CtI.ofW (cc := cX5_readPad) (maxL := 2) (rt := .boolean) (by decide) rfl (Nat.le_of_ble_eq_true rfl) (rpG_nar _ _ _ _) ?_
  intro pr en s m be me c A ls Q H hx hb hml hts hown hev hP hD hA hS hl hret
  have hown : s.vm.findClass RX5 = some m.cls := hown
  have hl : lv_has ls 2 [(0, .ref h)] := hl
  have in_wsX50 : ∀ w ∈ wsX50, w ∈ wsX5_readPad := fun _ h => List.mem_cons_of_mem _ (List.mem_append_right _ h)
  refine lv_aload_n hx hb dX5_readPad_0 rfl (lv_at hl 0 rfl) ?_
  refine lv_iconst (v := nI 0) hx hb dX5_readPad_1 (by decide) ?_
  refine va_put (D := G) (ci := 5) (v := .int (nI 0)) (ty := .int) (C := RX5) (T := TX5) (N := 10) hx hb hts in_wsX50 tyX5 tyX5_ok nmX5 hown hev.1 hP hD hS 0 rfl rfl 7 (by decide) (hts (.fieldLink RX5 133 "PuddleMinistriesModel" "spot" "I") (List.mem_of_getElem? (i := 1) rfl)) (fun _ h9 => h9) rfl (by decide +kernel) rfl rfl (Nat.le_of_ble_eq_true rfl) dX5_readPad_2 (fun H locs hP hD hS => ?_)
  have hP : va_P G vwCl (moT ca h a (m_z M, m_past M, m_states M, m_slots M, m_isSaved M, m_pad M, m_typed M, nI 0, m_told M, m_toldMany M)) H := hP
  have hD : va_D A (moT ca h a (m_z M, m_past M, m_states M, m_slots M, m_isSaved M, m_pad M, m_typed M, nI 0, m_told M, m_toldMany M)) := hD
  refine lv_aload_n hx hb dX5_readPad_5 rfl (lv_at hl 0 rfl) ?_
  refine lv_iconst (v := nI 0) hx hb dX5_readPad_6 (by decide) ?_
  refine va_put (D := G) (ci := 5) (v := .int (nI 0)) (ty := .int) (C := RX5) (T := TX5) (N := 10) hx hb hts in_wsX50 tyX5 tyX5_ok nmX5 hown hev.1 hP hD hS 0 rfl rfl 9 (by decide) (hts (.fieldLink RX5 136 "PuddleMinistriesModel" "toldMany" "I") (List.mem_of_getElem? (i := 2) rfl)) (fun _ h9 => h9) rfl (by decide +kernel) rfl rfl (Nat.le_of_ble_eq_true rfl) dX5_readPad_7 (fun H locs hP hD hS => ?_)
  have hP : va_P G vwCl (moT ca h a (m_z M, m_past M, m_states M, m_slots M, m_isSaved M, m_pad M, m_typed M, nI 0, m_told M, nI 0)) H := hP
  have hD : va_D A (moT ca h a (m_z M, m_past M, m_states M, m_slots M, m_isSaved M, m_pad M, m_typed M, nI 0, m_told M, nI 0)) := hD
  refine lv_aload_n hx hb dX5_readPad_10 rfl (lv_at hl 0 rfl) ?_
  refine goIw (va_runV (As := []) (rest := []) ⟨hx, hb, hml, hown, hts⟩ (CtI.use (c_X5_readHour l G ca h a (m_z M, m_past M, m_states M, m_slots M, m_isSaved M, m_pad M, m_typed M, nI 0, m_told M, nI 0) n 0 hty rfl (by omega) (by omega)) H.size) (cwV 0 hts gX5_readPad_X5_readHour rfl rfl rfl (by decide +kernel) ⟨Nat.le_of_ble_eq_true rfl, Nat.le_of_ble_eq_true rfl⟩) (pcW_V hev hP hD (q0 := 0) rfl rfl rfl) rfl rfl hl.1 rfl (lv_room (Nat.le_of_ble_eq_true rfl)) dX5_readPad_11 ⟨Nat.zero_le _, Nat.zero_le _⟩) hD hS hA moF (fun H locs hP hD hS => ?_)
  refine lv_eqi (y := (rhO (m_pad M) n 0).1) rfl ?_
  refine lv_istore_n (lv' := [(1, .int ((rhO (m_pad M) n 0).1)), (0, .ref h)]) hx hb dX5_readPad_14 rfl hl (by decide) rfl (fun ls hl => ?_)
  have loop_15 : ∀ (q i : Nat), i + q = n → rpG (m_pad M) n q i = rpG (m_pad M) n n 0 → (rpD (m_pad M) n i).2 ≤ n → (rpD (m_pad M) n i).1 = -6 ∨ i + 1 ≤ (rpD (m_pad M) n i).2 → ∀ (H : Heap) (locs : List Loc) (ls : Array Slot), va_P G vwCl (moT ca h a (m_z M, m_past M, m_states M, m_slots M, m_isSaved M, m_pad M, m_typed M, nI (rpD (m_pad M) n i).2, tdL (m_pad M) n (m_told M) i, nI i)) H → va_D A (moT ca h a (m_z M, m_past M, m_states M, m_slots M, m_isSaved M, m_pad M, m_typed M, nI (rpD (m_pad M) n i).2, tdL (m_pad M) n (m_told M) i, nI i)) → va_S A s.heap H locs → lv_has ls 2 [(0, .ref h), (1, .int ((rpD (m_pad M) n i).1))] → W pr l en ({ frames := 2, cells := 0, slots := 0, locals := 43 } : Room) s m ([.ref h] : List Value).toArray be me c H locs 0 0 Q (F0 m 15 ls []) := by
    intro q
    induction q with
    | zero =>
      intro i hi hr h1 h2 H locs ls hP hD hS hl
      obtain rfl : n = i := by omega
      refine lv_iload_n hx hb dX5_readPad_15 rfl (lv_at hl 1 rfl) ?_
      refine lv_bipush (v := (-6)) hx hb dX5_readPad_16 (by decide) ?_
      refine lv_icmp_eq (tgt := 62) hx hb dX5_readPad_18 (by decide) (fun c_1 => ?_) (fun c_1 => ?_)
      · skip
        refine lv_iconst (v := 0) hx hb dX5_readPad_62 (by decide) ?_
        have e_2 : (nI (rpG (m_pad M) n n 0).2.2) = (nI (rpD (m_pad M) n n).2) := by first | rw [← hr, rpG_0] | rw [← hr, rpG_s, {c0}]
        have e_3 : (tdL (m_pad M) n (m_told M) (rpG (m_pad M) n n 0).2.1) = (tdL (m_pad M) n (m_told M) n) := by first | rw [← hr, rpG_0] | rw [← hr, rpG_s, {c0}]
        have e_4 : (nI (rpG (m_pad M) n n 0).2.1) = (nI n) := by first | rw [← hr, rpG_0] | rw [← hr, rpG_s, {c0}]
        refine lv_eqi (y := (rpG (m_pad M) n n 0).1) (by first | rw [← hr, rpG_0] | rw [← hr, rpG_s, {c0}]) ?_
        exact hret _ _ _ _ (by rw [e_2]; rw [e_3]; rw [e_4]; exact hP) hS dX5_readPad_63
      · skip
        exact h2.elim (fun q1 => absurd q1 c_1) (fun q1 => absurd q1 (by omega))
    | succ q ih =>
      intro i hi hr h1 h2 H locs ls hP hD hS hl
      have hlt : i < n := by omega
      refine lv_iload_n hx hb dX5_readPad_15 rfl (lv_at hl 1 rfl) ?_
      refine lv_bipush (v := (-6)) hx hb dX5_readPad_16 (by decide) ?_
      refine lv_icmp_eq (tgt := 62) hx hb dX5_readPad_18 (by decide) (fun c_5 => ?_) (fun c_5 => ?_)
      · skip
        refine lv_iconst (v := 0) hx hb dX5_readPad_62 (by decide) ?_
        have e_6 : (nI (rpG (m_pad M) n n 0).2.2) = (nI (rpD (m_pad M) n i).2) := by first | rw [← hr, rpG_0] | rw [← hr, rpG_s, if_pos c_5]
        have e_7 : (tdL (m_pad M) n (m_told M) (rpG (m_pad M) n n 0).2.1) = (tdL (m_pad M) n (m_told M) i) := by first | rw [← hr, rpG_0] | rw [← hr, rpG_s, if_pos c_5]
        have e_8 : (nI (rpG (m_pad M) n n 0).2.1) = (nI i) := by first | rw [← hr, rpG_0] | rw [← hr, rpG_s, if_pos c_5]
        refine lv_eqi (y := (rpG (m_pad M) n n 0).1) (by first | rw [← hr, rpG_0] | rw [← hr, rpG_s, if_pos c_5]) ?_
        exact hret _ _ _ _ (by rw [e_6]; rw [e_7]; rw [e_8]; exact hP) hS dX5_readPad_63
      · skip
        refine lv_aload_n hx hb dX5_readPad_21 rfl (lv_at hl 0 rfl) ?_
        refine va_get (D := G) (ci := 5) (v := .ref (a 5)) (C := RX5) (T := TX5) (N := 10) hx hb hts in_wsX50 hown hev.1 hP 0 rfl rfl 8 (by decide) (hts (.fieldLink RX5 26 "PuddleMinistriesModel" "told" "[I") (List.mem_of_getElem? (i := 3) rfl)) (fun _ h9 => h9) rfl dX5_readPad_22 ?_
        refine lv_aload_n hx hb dX5_readPad_25 rfl (lv_at hl 0 rfl) ?_
        refine va_get (D := G) (ci := 5) (v := .int (nI i)) (C := RX5) (T := TX5) (N := 10) hx hb hts in_wsX50 hown hev.1 hP 0 rfl rfl 9 (by decide) (hts (.fieldLink RX5 136 "PuddleMinistriesModel" "toldMany" "I") (List.mem_of_getElem? (i := 2) rfl)) (fun _ h9 => h9) rfl dX5_readPad_26 ?_
        refine lv_iload_n hx hb dX5_readPad_29 rfl (lv_at hl 1 rfl) ?_
        refine b_iast hx hb hev.1 hP hD hS 6 rfl rfl (j := i) (by omega) (by decide) dX5_readPad_30 (fun H locs hP hD hS => ?_)
        have hP : va_P G vwCl (moT ca h a (m_z M, m_past M, m_states M, m_slots M, m_isSaved M, m_pad M, m_typed M, nI (rpD (m_pad M) n i).2, upd (tdL (m_pad M) n (m_told M) i) i ((rpD (m_pad M) n i).1), nI i)) H := hP
        have hD : va_D A (moT ca h a (m_z M, m_past M, m_states M, m_slots M, m_isSaved M, m_pad M, m_typed M, nI (rpD (m_pad M) n i).2, upd (tdL (m_pad M) n (m_told M) i) i ((rpD (m_pad M) n i).1), nI i)) := hD
        refine lv_aload_n hx hb dX5_readPad_31 rfl (lv_at hl 0 rfl) ?_
        refine lv_dup hx hb dX5_readPad_32 rfl ?_
        refine va_get (D := G) (ci := 5) (v := .int (nI i)) (C := RX5) (T := TX5) (N := 10) hx hb hts in_wsX50 hown hev.1 hP 0 rfl rfl 9 (by decide) (hts (.fieldLink RX5 136 "PuddleMinistriesModel" "toldMany" "I") (List.mem_of_getElem? (i := 2) rfl)) (fun _ h9 => h9) rfl dX5_readPad_33 ?_
        refine lv_iconst (v := nI 1) hx hb dX5_readPad_36 (by decide) ?_
        refine lv_iadd hx hb dX5_readPad_37 ?_
        refine lv_eqi (nI_add _ _) ?_
        refine va_put (D := G) (ci := 5) (v := .int (nI (i + 1))) (ty := .int) (C := RX5) (T := TX5) (N := 10) hx hb hts in_wsX50 tyX5 tyX5_ok nmX5 hown hev.1 hP hD hS 0 rfl rfl 9 (by decide) (hts (.fieldLink RX5 136 "PuddleMinistriesModel" "toldMany" "I") (List.mem_of_getElem? (i := 2) rfl)) (fun _ h9 => h9) rfl (by decide +kernel) rfl rfl (Nat.le_of_ble_eq_true rfl) dX5_readPad_38 (fun H locs hP hD hS => ?_)
        have hP : va_P G vwCl (moT ca h a (m_z M, m_past M, m_states M, m_slots M, m_isSaved M, m_pad M, m_typed M, nI (rpD (m_pad M) n i).2, upd (tdL (m_pad M) n (m_told M) i) i ((rpD (m_pad M) n i).1), nI (i + 1))) H := hP
        have hD : va_D A (moT ca h a (m_z M, m_past M, m_states M, m_slots M, m_isSaved M, m_pad M, m_typed M, nI (rpD (m_pad M) n i).2, upd (tdL (m_pad M) n (m_told M) i) i ((rpD (m_pad M) n i).1), nI (i + 1))) := hD
        refine lv_aload_n hx hb dX5_readPad_41 rfl (lv_at hl 0 rfl) ?_
        refine va_get (D := G) (ci := 5) (v := .int (nI (rpD (m_pad M) n i).2)) (C := RX5) (T := TX5) (N := 10) hx hb hts in_wsX50 hown hev.1 hP 0 rfl rfl 7 (by decide) (hts (.fieldLink RX5 133 "PuddleMinistriesModel" "spot" "I") (List.mem_of_getElem? (i := 1) rfl)) (fun _ h9 => h9) rfl dX5_readPad_42 ?_
        refine lv_aload_n hx hb dX5_readPad_45 rfl (lv_at hl 0 rfl) ?_
        refine va_get (D := G) (ci := 5) (v := .int (m_typed M)) (C := RX5) (T := TX5) (N := 10) hx hb hts in_wsX50 hown hev.1 hP 0 rfl rfl 6 (by decide) (hts (.fieldLink RX5 130 "PuddleMinistriesModel" "typed" "I") (List.mem_of_getElem? (i := 4) rfl)) (fun _ h9 => h9) rfl dX5_readPad_46 ?_
        refine lv_eqi hty ?_
        refine lv_icmp_ne (tgt := 54) hx hb dX5_readPad_49 (by decide) (fun c_9 => ?_) (fun c_9 => ?_)
        · skip
          have nc_9 : ¬ ((rpD (m_pad M) n i).2) = n := fun q => c_9 ((nI_eq (a := (rpD (m_pad M) n i).2) (b := n) (by omega) (by omega)).mpr q)
          refine lv_aload_n hx hb dX5_readPad_54 rfl (lv_at hl 0 rfl) ?_
          refine goIw (va_runV (As := []) (rest := []) ⟨hx, hb, hml, hown, hts⟩ (CtI.use (c_X5_readHour l G ca h a (m_z M, m_past M, m_states M, m_slots M, m_isSaved M, m_pad M, m_typed M, nI (rpD (m_pad M) n i).2, upd (tdL (m_pad M) n (m_told M) i) i ((rpD (m_pad M) n i).1), nI (i + 1)) n ((rpD (m_pad M) n i).2) hty rfl (by omega) (by omega)) H.size) (cwV 0 hts gX5_readPad_X5_readHour rfl rfl rfl (by decide +kernel) ⟨Nat.le_of_ble_eq_true rfl, Nat.le_of_ble_eq_true rfl⟩) (pcW_V hev hP hD (q0 := 0) rfl rfl rfl) rfl rfl hl.1 rfl (lv_room (Nat.le_of_ble_eq_true rfl)) dX5_readPad_55 ⟨Nat.zero_le _, Nat.zero_le _⟩) hD hS hA moF (fun H locs hP hD hS => ?_)
          refine lv_eqi (y := (rhO (m_pad M) n ((rpD (m_pad M) n i).2)).1) rfl ?_
          refine lv_istore_n (lv' := [(1, .int ((rhO (m_pad M) n ((rpD (m_pad M) n i).2)).1)), (0, .ref h)]) hx hb dX5_readPad_58 rfl hl (by decide) rfl (fun ls hl => ?_)
          refine lv_goto (tgt := 15) hx hb dX5_readPad_59 (by decide) ?_
          have hq := rhO_le (m_pad M) h1 hn
          have hq2 := h2.resolve_left c_5
          exact ih (i + 1) (by omega) (by rw [← hr, rpG_s, if_neg c_5, if_neg c_9]) (by exact hq.1) (by exact hq.2.elim Or.inl (fun z => Or.inr (by show i + 1 + 1 ≤ (rhO (m_pad M) n (rpD (m_pad M) n i).2).2; omega))) _ _ _ (by rw [show (nI (rpD (m_pad M) n (i + 1)).2) = (nI (rhO ((m_pad M)) n ((rpD (m_pad M) n i).2)).2) from by rfl, show (tdL (m_pad M) n (m_told M) (i + 1)) = (upd (tdL (m_pad M) n (m_told M) i) i ((rpD (m_pad M) n i).1)) from by rfl]; exact hP) (D_of hD moF) hS (lv_sub hl [1, 0] rfl)
        · skip
          have nc_9 : ((rpD (m_pad M) n i).2) = n := (nI_eq (a := (rpD (m_pad M) n i).2) (b := n) (by omega) (by omega)).mp c_9
          refine lv_iconst (v := 1) hx hb dX5_readPad_52 (by decide) ?_
          have e_10 : (nI (rpG (m_pad M) n n 0).2.2) = (nI (rpD (m_pad M) n i).2) := by rw [← hr, rpG_s, if_neg c_5, if_pos c_9] <;> rfl
          have e_11 : (tdL (m_pad M) n (m_told M) (rpG (m_pad M) n n 0).2.1) = (upd (tdL (m_pad M) n (m_told M) i) i ((rpD (m_pad M) n i).1)) := by rw [← hr, rpG_s, if_neg c_5, if_pos c_9] <;> rfl
          have e_12 : (nI (rpG (m_pad M) n n 0).2.1) = (nI (i + 1)) := by rw [← hr, rpG_s, if_neg c_5, if_pos c_9] <;> rfl
          refine lv_eqi (y := (rpG (m_pad M) n n 0).1) (by rw [← hr, rpG_s, if_neg c_5, if_pos c_9]) ?_
          exact hret _ _ _ _ (by rw [e_10]; rw [e_11]; rw [e_12]; exact hP) hS dX5_readPad_53
  exact loop_15 n 0 (by omega) (by rfl) (by exact (rhO_le _ (Nat.zero_le _) hn).1) (by exact (rhO_le _ (Nat.zero_le _) hn).2) _ _ _ hP (D_of hD moF) hS (lv_sub hl [1, 0] rfl)
